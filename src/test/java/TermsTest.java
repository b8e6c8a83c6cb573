/** What the section 'Terms' says of ticks, of receiving and of copying. */
public final class TermsTest {

  public static void main(String[] args) {
    backupsTakeTurns();
    bothMastersDueInOneTick();
    demotedByGreaterNumber();
    linksDecideMastership();
    copyingUpToTen();
    repairAskedAgain();
    repairForgottenOutside();
    repairKeptByMaster();
    lessIsNotCopied();
    splitNumbers();
    Check.end();
  }

  private static void backupsTakeTurns() {
    StandbyPair x = new StandbyPair();
    x.setPriority(0, 0, 100);
    x.setPriority(1, 0, 120);
    x.tick(14);
    Check.due("both became masters, the better one stays", x.masters(0), 2);
    Check.due("both advertised", x.sent(0), 2);
    Check.due("router 0 did once", x.changes(0, 0), 1);
    Check.due("router 1 did once", x.changes(1, 0), 1);
    Check.due("router 0 had its turn already", x.timer(0, 0), 14);

    StandbyPair y = new StandbyPair();
    y.setPriority(0, 0, 120);
    y.setPriority(1, 0, 100);
    y.tick(14);
    Check.due("the worse one never became one", y.changes(1, 0), 0);
    Check.due("and had its turn with a new timer", y.timer(1, 0), 13);
  }

  private static void bothMastersDueInOneTick() {
    StandbyPair x = new StandbyPair();
    x.join(0, 1, false);
    x.setPriority(0, 0, 120);
    x.setPriority(1, 0, 100);
    x.tick(14);
    x.join(0, 1, true);
    x.tick(4);
    Check.due("a master made a backup has no turn as a master", x.sent(0), 3);
    Check.due("but one as a backup", x.timer(1, 0), 13);
  }

  private static void demotedByGreaterNumber() {
    StandbyPair x = new StandbyPair();
    x.join(0, 1, false);
    x.setPriority(0, 0, 100);
    x.setPriority(1, 0, 120);
    x.tick(14);
    x.join(0, 1, true);
    x.tick(4);
    Check.due("both had their turn as masters", x.sent(0), 4);
    Check.due("the worse one also as a backup", x.timer(0, 0), 13);
    Check.due("one stays", x.masters(0), 2);
  }

  private static void linksDecideMastership() {
    StandbyPair x = Samples.runningPair();
    x.track(0, 1, 100);
    x.setLink(0, 1, false);
    x.tick(20);
    Check.due("100 against 100: the master stays", x.masters(0), 1);
    x.setPriority(1, 0, 101);
    x.tick(20);
    Check.due("100 against 101: it goes", x.masters(0), 2);
    x.setLink(0, 1, true);
    x.tick(20);
    Check.due("the link up again: it comes back", x.masters(0), 1);
  }

  private static void copyingUpToTen() {
    StandbyPair x = Samples.runningPair();
    x.serve(0, 10);
    x.tick(4);
    Check.due("ten more are copied", x.known(1, 0), 10);
    x.serve(0, 11);
    x.tick(4);
    Check.due("eleven more are not", x.known(1, 0), 10);
    Check.due("a repair is asked for", x.repairs(), 0);
    x.tick(4);
    Check.due("and done", x.known(1, 0), 21);
    Check.due("and counted", x.repairs(), 1);
    x.tick(4);
    Check.due("once", x.repairs(), 1);
    x.serve(0, 9);
    x.tick(4);
    Check.due("a small step", x.known(1, 0), 30);
    Check.due("is no repair", x.repairs(), 1);
    x.serve(0, 1);
    x.tick(4);
    Check.due("the smallest step", x.known(1, 0), 31);
  }

  private static void repairAskedAgain() {
    StandbyPair x = Samples.runningPair();
    x.serve(0, 100);
    x.tick(8);
    x.serve(0, 100);
    x.tick(4);
    Check.due("asked for again", x.known(1, 0), 100);
    x.serve(0, 100);
    x.tick(4);
    Check.due("done again, with all that came since", x.known(1, 0), 300);
    Check.due("counted again", x.repairs(), 2);
  }

  private static void repairForgottenOutside() {
    StandbyPair x = Samples.runningPair();
    x.serve(0, 11);
    x.tick(4);
    x.setPriority(1, 0, 0);
    x.setPriority(1, 0, 100);
    x.tick(4);
    Check.due("one that comes back asks anew", x.known(1, 0), 0);
    x.tick(4);
    Check.due("and is repaired then", x.known(1, 0) * 10 + x.repairs(), 111);

    StandbyPair y = Samples.runningPair();
    y.serve(0, 11);
    y.tick(4);
    y.die(1);
    y.live(1);
    y.tick(4);
    Check.due("so does one that lives again", y.known(1, 0), 0);
    y.setPriority(1, 0, 90);
    y.tick(4);
    Check.due("another priority is no beginning", y.known(1, 0) * 10 + y.repairs(), 111);
  }

  private static void repairKeptByMaster() {
    // Router 1 asks at 16, becomes a master at 29 with no more than 11 to copy left.
    StandbyPair x = Samples.runningPair();
    x.serve(0, 11);
    x.tick(4);
    x.die(0);
    x.tick(13);
    Check.due("router 1 is the master", x.masters(0), 2);
    x.serve(0, 11);
    x.live(0);
    x.tick(12);
    Check.due("router 0 takes over", x.masters(0), 1);
    Check.due("the same number repairs nothing", x.repairs(), 0);
    x.serve(0, 3);
    x.tick(4);
    Check.due("a small step with a repair asked for", x.known(1, 0), 14);
    Check.due("is a repair", x.repairs(), 1);
  }

  private static void lessIsNotCopied() {
    StandbyPair x = Samples.runningPair();
    x.serve(0, 8);
    x.tick(4);
    x.die(0);
    x.tick(13);
    x.serve(0, 2);
    x.live(0);
    x.tick(12);
    Check.due("router 0 takes over with 8", x.known(0, 0), 8);
    x.tick(8);
    Check.due("router 1 keeps its 10", x.known(1, 0), 10);
  }

  private static void splitNumbers() {
    // A master that is healed away copies from the one that stays, and asks for a repair too.
    StandbyPair x = Samples.splitPair();
    x.setPriority(1, 0, 250);
    x.serve(0, 5);
    x.join(0, 1, true);
    x.tick(4);
    Check.due("router 1 stays", x.masters(0), 2);
    Check.due("the same", x.known(0, 0), 5);

    StandbyPair y = Samples.splitPair();
    y.setPriority(2, 0, 1);
    y.join(1, 2, false);
    y.serve(0, 5);
    y.tick(3);
    Check.due("a backup copies from the one it hears", y.known(2, 0), 5);
    y.handOver(1, 0);
    y.serve(0, 20);
    y.tick(4);
    Check.due("25 against 5 asks for a repair", y.known(2, 0) + y.repairs(), 5);
    y.tick(4);
    Check.due("which is done", y.known(2, 0) * 10 + y.repairs(), 251);

    StandbyPair z = Samples.runningPair();
    z.join(0, 1, false);
    z.serve(0, 6);
    z.tick(13);
    z.join(0, 1, true);
    z.tick(3);
    Check.due("a master made a backup copies", z.known(1, 0), 6);

    StandbyPair far = Samples.runningPair();
    far.join(0, 1, false);
    far.serve(0, 16);
    far.tick(13);
    far.join(0, 1, true);
    far.tick(3);
    Check.due("or asks for a repair", far.known(1, 0), 0);
    far.tick(4);
    Check.due("that is done later", far.known(1, 0) * 10 + far.repairs(), 161);
  }
}
