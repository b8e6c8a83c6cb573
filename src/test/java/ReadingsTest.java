/** Promises 13 to 22: what is. */
public final class ReadingsTest {

  public static void main(String[] args) {
    promise13State();
    promise14Priority();
    promise15Timer();
    promise16Masters();
    promise17Changes();
    promise18Gaps();
    promise19Sent();
    promise20Known();
    promise21Repairs();
    promise22IsSettled();
    outOfRange();
    readingChangesNothing();
    Check.end();
  }

  private static void promise13State() {
    StandbyPair x = Samples.pair();
    x.tick(11);
    Check.due("a backup", x.state(0, 0), 1);
    x.tick(1);
    Check.due("a master", x.state(0, 0), 2);
    Check.due("still a backup", x.state(1, 0), 1);
    Check.due("no part", x.state(2, 0), 0);
    Check.due("no part in another group", x.state(0, 1), 0);
    x.setPriority(3, 2, 5);
    Check.due("the last router and group", x.state(3, 2), 1);
    x.die(0);
    Check.due("dead", x.state(0, 0), 0);
  }

  private static void promise14Priority() {
    StandbyPair x = Samples.pair();
    Check.due("the base priority", x.priority(0, 0), 200);
    Check.due("no part", x.priority(2, 0), 0);
    x.track(0, 0, 100);
    x.track(0, 1, 99);
    x.setLink(0, 0, false);
    x.setLink(0, 1, false);
    Check.due("less both decrements", x.priority(0, 0), 1);
    x.setPriority(0, 0, 201);
    Check.due("less both decrements", x.priority(0, 0), 2);
    x.setPriority(0, 0, 1);
    Check.due("1 at least", x.priority(0, 0), 1);
    Check.due("no part, links down", x.priority(0, 1), 0);
    x.die(0);
    Check.due("dead", x.priority(0, 0), 0);
  }

  private static void promise15Timer() {
    StandbyPair x = Samples.pair();
    x.tick(1);
    Check.due("a backup's, 1 less", x.timer(0, 0), 11);
    x.tick(11);
    Check.due("a new master's is the period", x.timer(0, 0), 4);
    Check.due("a backup's that heard it, and had its turn then", x.timer(1, 0), 13);
    x.tick(3);
    Check.due("a master's, 1 less each", x.timer(0, 0), 1);
    x.tick(1);
    Check.due("a master's that advertised", x.timer(0, 0), 4);
    Check.illegalState("timer of one that takes no part", y -> y.timer(3, 1));
    Check.illegalState("timer of a dead router", y -> y.timer(3, 2));
  }

  private static void promise16Masters() {
    StandbyPair x = new StandbyPair();
    for (int one = 0; one < 4; one++) {
      x.setPriority(one, 1, 254);
      for (int other = one + 1; other < 4; other++) {
        x.join(one, other, false);
      }
    }
    x.tick(11);
    Check.due("no master", x.masters(1), 0);
    x.tick(1);
    Check.due("four masters", x.masters(1), 15);
    Check.due("of one group", x.masters(0) + x.masters(2), 0);
    x.handOver(1, 1);
    Check.due("three masters", x.masters(1), 13);
    x.die(0);
    x.setPriority(2, 1, 0);
    Check.due("one master", x.masters(1), 8);
  }

  private static void promise17Changes() {
    StandbyPair x = new StandbyPair();
    x.setPriority(2, 1, 254);
    x.tick(11);
    Check.due("never", x.changes(2, 1), 0);
    x.tick(1);
    Check.due("once", x.changes(2, 1), 1);
    x.tick(40);
    Check.due("still once", x.changes(2, 1), 1);
    x.handOver(2, 1);
    x.tick(12);
    Check.due("twice", x.changes(2, 1), 2);
    x.die(2);
    Check.due("twice, dead", x.changes(2, 1), 2);
    x.live(2);
    x.tick(12);
    Check.due("three times", x.changes(2, 1), 3);
    Check.due("in no other group", x.changes(2, 0) + x.changes(2, 2), 0);
    Check.due("no other router", x.changes(1, 1) + x.changes(3, 1), 0);
  }

  private static void promise18Gaps() {
    StandbyPair x = new StandbyPair();
    x.tick(3);
    Check.due("ticks without any router are gaps", x.gaps(1), 3);
    x.setPriority(0, 0, 254);
    x.tick(11);
    Check.due("and ticks without a master", x.gaps(0), 14);
    x.tick(1);
    Check.due("not the one in which there is one", x.gaps(0), 14);
    x.tick(20);
    Check.due("nor those after it", x.gaps(0), 14);
    x.die(0);
    Check.due("only a tick is a gap", x.gaps(0), 14);
    x.tick(2);
    Check.due("a gap again", x.gaps(0), 16);
    Check.due("of each group alone", x.gaps(2), 37);
  }

  private static void promise19Sent() {
    StandbyPair x = new StandbyPair();
    x.setPriority(0, 2, 254);
    x.tick(11);
    Check.due("nothing yet", x.sent(2), 0);
    x.tick(1);
    Check.due("a new master's", x.sent(2), 1);
    x.tick(3);
    Check.due("not before the period ends", x.sent(2), 1);
    x.tick(1);
    Check.due("then one more", x.sent(2), 2);
    x.handOver(0, 2);
    Check.due("one of 0", x.sent(2), 3);
    x.tick(12);
    x.setPriority(0, 2, 0);
    Check.due("another of 0", x.sent(2), 5);
    Check.due("of each group alone", x.sent(0) + x.sent(1), 0);
  }

  private static void promise20Known() {
    StandbyPair x = Samples.runningPair();
    x.serve(0, 3);
    Check.due("served", x.known(0, 0), 3);
    Check.due("not yet copied", x.known(1, 0), 0);
    x.tick(4);
    Check.due("copied", x.known(1, 0), 3);
    Check.due("no part, nothing copied", x.known(2, 0), 0);
    x.setPriority(0, 0, 0);
    x.die(1);
    Check.due("stays outside", x.known(0, 0), 3);
    Check.due("stays dead", x.known(1, 0), 3);
  }

  private static void promise21Repairs() {
    StandbyPair x = new StandbyPair();
    for (int group = 0; group < 3; group++) {
      x.setPriority(group, group, 254);
      x.setPriority(3, group, 10);
    }
    x.tick(12);
    for (int group = 0; group < 3; group++) {
      x.serve(group, 90);
    }
    x.tick(4);
    Check.due("asked for", x.repairs(), 0);
    x.tick(4);
    Check.due("three in one tick, of all groups", x.repairs(), 3);
    x.tick(8);
    Check.due("no more", x.repairs(), 3);
  }

  private static void promise22IsSettled() {
    StandbyPair x = new StandbyPair();
    Check.due("nobody takes part", x.isSettled(0), true);
    x.setPriority(3, 0, 254);
    Check.due("no master yet", x.isSettled(0), false);
    Check.due("other groups", x.isSettled(1), true);
    x.tick(12);
    Check.due("one master", x.isSettled(0), true);
    x.handOver(3, 0);
    Check.due("handed over", x.isSettled(0), false);
    x.die(3);
    Check.due("dead", x.isSettled(0), true);

    for (int one = 0; one < 4; one++) {
      for (int other = one + 1; other < 4; other++) {
        twoMasters(one, other);
      }
    }
  }

  private static void twoMasters(int one, int other) {
    StandbyPair x = new StandbyPair();
    x.setPriority(one, 2, 254);
    x.setPriority(other, 2, 254);
    x.join(one, other, false);
    x.tick(12);
    Check.due("two masters, cut", x.isSettled(2), true);
    x.join(other, one, true);
    Check.due("two masters, joined", x.isSettled(2), false);
    x.setPriority(one, 2, 0);
    Check.due("one of them gone", x.isSettled(2), true);
  }

  private static void outOfRange() {
    for (int bad : Samples.OUT_OF_ROUTERS) {
      Check.outOfRange("state, router " + bad, x -> x.state(bad, 0));
      Check.outOfRange("priority, router " + bad, x -> x.priority(bad, 0));
      Check.outOfRange("timer, router " + bad, x -> x.timer(bad, 0));
      Check.outOfRange("changes, router " + bad, x -> x.changes(bad, 0));
      Check.outOfRange("known, router " + bad, x -> x.known(bad, 0));
    }
    for (int bad : Samples.OUT_OF_GROUPS) {
      Check.outOfRange("state, group " + bad, x -> x.state(0, bad));
      Check.outOfRange("priority, group " + bad, x -> x.priority(0, bad));
      Check.outOfRange("timer, group " + bad, x -> x.timer(0, bad));
      Check.outOfRange("masters, group " + bad, x -> x.masters(bad));
      Check.outOfRange("changes, group " + bad, x -> x.changes(0, bad));
      Check.outOfRange("gaps, group " + bad, x -> x.gaps(bad));
      Check.outOfRange("sent, group " + bad, x -> x.sent(bad));
      Check.outOfRange("known, group " + bad, x -> x.known(0, bad));
      Check.outOfRange("isSettled, group " + bad, x -> x.isSettled(bad));
    }
  }

  private static void readingChangesNothing() {
    StandbyPair read = Samples.busy();
    Samples.reading(read);
    Check.due("after reading, all that follows", Samples.trail(read),
        Samples.trail(Samples.busy()));
  }
}
