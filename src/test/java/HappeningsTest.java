/** Promises 7 to 12: what happens. */
public final class HappeningsTest {

  public static void main(String[] args) {
    promise7Join();
    promise7CutAndHealed();
    promise7EqualsHealed();
    promise7OutOfRange();
    promise8Die();
    promise9Live();
    promise9LiveIsFresh();
    promise10HandOver();
    promise10LosesNothing();
    promise10Refused();
    promise11Serve();
    promise12Tick();
    Check.end();
  }

  private static void promise7Join() {
    StandbyPair x = new StandbyPair();
    Check.due("join, cut", x.join(0, 3, false), true);
    Check.due("join, cut already, the other way round", x.join(3, 0, false), false);
    Check.due("join, other pairs", x.join(0, 2, true), true);
    Check.due("join, other pairs", x.join(2, 3, true), true);
    Check.due("join, joined the other way round", x.join(3, 0, true), false);
    Check.due("join, joined already", x.join(0, 3, true), true);
    x.die(1);
    Check.due("join of a dead router", x.join(1, 2, false), true);
    x.live(1);
    Check.due("stays when it lives", x.join(2, 1, true), false);
  }

  private static void promise7CutAndHealed() {
    StandbyPair x = Samples.splitPair();
    Check.due("a split mind", x.masters(0), 3);
    Check.due("is settled", x.isSettled(0), true);
    x.serve(0, 4);
    x.join(0, 1, true);
    Check.due("no more when joined", x.isSettled(0), false);
    x.tick(2);
    Check.due("until the next advertisement", x.masters(0), 3);
    x.tick(1);
    Check.due("which heals it", x.masters(0), 1);
    Check.due("the former master waits", x.timer(1, 0), 13);
    Check.due("settled again", x.isSettled(0), true);

    StandbyPair y = Samples.splitPair();
    y.setPeriod(0, 10);
    y.tick(3);
    y.join(0, 1, true);
    y.tick(1);
    Check.due("the worse one's advertisement heals nothing", y.masters(0), 3);
    y.tick(8);
    Check.due("nor does a tick without one", y.masters(0), 3);
    y.tick(1);
    Check.due("the better one's does", y.masters(0), 1);
  }

  private static void promise7EqualsHealed() {
    StandbyPair x = new StandbyPair();
    x.join(1, 2, false);
    x.setPriority(1, 0, 100);
    x.setPriority(2, 0, 100);
    x.tick(14);
    Check.due("equals, cut", x.masters(0), 6);
    x.join(1, 2, true);
    x.tick(4);
    Check.due("of equals the greater number stays", x.masters(0), 4);
    Check.due("both advertised", x.sent(0), 4);
    Check.due("the lesser one waits", x.timer(1, 0), 13);
  }

  private static void promise7OutOfRange() {
    for (int bad : Samples.OUT_OF_ROUTERS) {
      Check.outOfRange("join, one " + bad, x -> x.join(bad, 1, false));
      Check.outOfRange("join, other " + bad, x -> x.join(1, bad, false));
      Check.outOfRange("join, both " + bad, x -> x.join(bad, bad, false));
    }
    for (int router = 0; router < 4; router++) {
      int same = router;
      Check.outOfRange("join, both " + same, x -> x.join(same, same, false));
    }
  }

  private static void promise8Die() {
    StandbyPair x = Samples.runningPair();
    x.serve(0, 5);
    Check.due("die, master of one", x.die(0), 1);
    Check.due("it takes no part", x.state(0, 0), 0);
    Check.due("it has no priority", x.priority(0, 0), 0);
    Check.due("it advertises nothing", x.sent(0), 1);
    Check.due("nobody is quicker", x.timer(1, 0), 13);
    Check.due("nobody copies", x.known(1, 0), 0);
    Check.due("what it served stays", x.known(0, 0), 5);
    Check.due("die, a backup", x.die(1), 0);
    Check.due("die, no part in anything", x.die(3), 0);
    Check.due("the base priority stays", x.setPriority(0, 0, 9), 200);

    StandbyPair all = new StandbyPair();
    for (int group = 0; group < 3; group++) {
      all.setPriority(2, group, 254);
    }
    all.tick(12);
    all.setPriority(2, 1, 0);
    all.setPriority(1, 1, 254);
    all.setPriority(2, 1, 254);
    Check.due("die, master of two, backup in one", all.die(2), 2);
    Check.due("in no group", all.state(2, 0) + all.state(2, 1) + all.state(2, 2), 0);

    for (int bad : Samples.OUT_OF_ROUTERS) {
      Check.outOfRange("die, router " + bad, y -> y.die(bad));
    }
    Check.illegalState("die, a dead router", y -> y.die(3));
  }

  private static void promise9Live() {
    StandbyPair x = new StandbyPair();
    x.die(1);
    Check.due("live, no group", x.live(1), 0);
    x.setPriority(1, 0, 10);
    x.setPriority(1, 2, 20);
    x.die(1);
    x.tick(5);
    Check.due("live, two groups", x.live(1), 2);
    Check.due("begins in group 0", x.state(1, 0), 1);
    Check.due("not in group 1", x.state(1, 1), 0);
    Check.due("begins in group 2", x.state(1, 2), 1);
    Check.due("with its wait", x.timer(1, 0), 15);
    x.setPriority(1, 1, 30);
    x.die(1);
    Check.due("live, three groups", x.live(1), 3);
    x.die(1);
    x.setPriority(1, 1, 0);
    Check.due("live, one left while dead", x.live(1), 2);
    x.die(1);
    x.setPriority(1, 1, 1);
    Check.due("live, priority 1 takes part too", x.live(1), 3);
    Check.due("as a backup", x.state(1, 1), 1);

    for (int bad : Samples.OUT_OF_ROUTERS) {
      Check.outOfRange("live, router " + bad, y -> y.live(bad));
    }
    for (int router = 0; router < 3; router++) {
      int alive = router;
      Check.illegalState("live, router " + alive + " that is alive", y -> y.live(alive));
    }
  }

  private static void promise9LiveIsFresh() {
    StandbyPair x = Samples.runningPair();
    x.serve(0, 30);
    x.die(0);
    x.setPeriod(0, 2);
    x.live(0);
    Check.due("a master that died is a backup", x.state(0, 0), 1);
    Check.due("with the wait of now", x.timer(0, 0), 6);
    Check.due("and what it served", x.known(0, 0), 30);

    StandbyPair y = Samples.runningPair();
    y.setPreemption(0, true, 1);
    y.setPriority(2, 0, 250);
    y.tick(4);
    y.die(2);
    y.live(2);
    y.tick(4);
    Check.due("it has heard 0 when it lives again", y.timer(2, 0), 11);
    y.tick(4);
    Check.due("and once after that", y.timer(2, 0), 7);
  }

  private static void promise10HandOver() {
    StandbyPair x = Samples.runningPair();
    x.tick(4);
    x.handOver(0, 0);
    Check.due("a backup now", x.state(0, 0), 1);
    Check.due("with its wait", x.timer(0, 0), 12);
    Check.due("it advertised 0", x.sent(0), 3);
    Check.due("the other is quick", x.timer(1, 0), 3);
    x.tick(2);
    Check.due("no master for two ticks", x.masters(0), 0);
    Check.due("two gaps more", x.gaps(0), 13);
    x.tick(1);
    Check.due("then the other one", x.masters(0), 2);
    Check.due("no gap", x.gaps(0), 13);
    Check.due("the timer of the better one runs on", x.timer(0, 0), 9);
    x.tick(8);
    Check.due("it waits", x.masters(0), 2);
    x.tick(1);
    Check.due("and takes it back", x.masters(0), 1);
    Check.due("changes of router 0", x.changes(0, 0), 2);
    Check.due("changes of router 1", x.changes(1, 0), 1);
    Check.due("what was sent", x.sent(0), 7);
  }

  private static void promise10LosesNothing() {
    StandbyPair x = Samples.runningPair();
    x.setPriority(2, 0, 1);
    x.setPriority(3, 0, 254);
    x.join(0, 3, false);
    x.serve(0, 10);
    x.handOver(0, 0);
    Check.due("a backup copies ten", x.known(1, 0), 10);
    Check.due("so does another", x.known(2, 0), 10);
    Check.due("not one that is cut", x.known(3, 0), 0);
    Check.due("whose timer does not change", x.timer(3, 0), 12);
    Check.due("priority 1: quick too", x.timer(2, 0), 4);

    StandbyPair best = Samples.runningPair();
    best.setPriority(2, 0, 254);
    best.handOver(0, 0);
    Check.due("priority 254: the next tick", best.timer(2, 0), 1);
    best.tick(1);
    Check.due("no gap at all", best.gaps(0), 11);

    StandbyPair split = Samples.splitPair();
    split.join(0, 1, true);
    split.handOver(1, 0);
    Check.due("another master does not mind", split.masters(0), 1);
    Check.due("nor its timer", split.timer(0, 0), 3);

    StandbyPair heard = Samples.runningPair();
    heard.setPreemption(0, true, 1);
    heard.setPriority(2, 0, 250);
    heard.tick(4);
    heard.handOver(0, 0);
    Check.due("handed over: quick", heard.timer(2, 0), 1);
    heard.setPriority(2, 0, 0);
    heard.tick(3);
    Check.due("router 1 has it", heard.masters(0), 2);
    Check.due("router 0 had heard 0", heard.timer(0, 0), 12);
  }

  private static void promise10Refused() {
    for (int bad : Samples.OUT_OF_ROUTERS) {
      Check.outOfRange("handOver, router " + bad, x -> x.handOver(bad, 0));
    }
    for (int bad : Samples.OUT_OF_GROUPS) {
      Check.outOfRange("handOver, group " + bad, x -> x.handOver(0, bad));
    }
    Check.illegalState("handOver of a backup", x -> x.handOver(1, 0));
    Check.illegalState("handOver of one that takes no part", x -> x.handOver(3, 0));
    Check.illegalState("handOver of a dead router", x -> x.handOver(3, 2));
  }

  private static void promise11Serve() {
    StandbyPair x = Samples.runningPair();
    Check.due("serve, one master", x.serve(0, 1), 1);
    Check.due("its number grows", x.known(0, 0), 1);
    Check.due("not that of a backup", x.known(1, 0), 0);
    Check.due("serve, most", x.serve(0, 100), 1);
    Check.due("it grows on", x.known(0, 0), 101);
    Check.due("serve, no master", x.serve(1, 100), 0);
    Check.due("not in other groups", x.known(0, 1), 0);
    StandbyPair y = Samples.splitPair();
    Check.due("serve, two masters", y.serve(0, 20), 2);
    Check.due("each grows", y.known(0, 0) * 1000 + y.known(1, 0), 20020);
    for (int bad : Samples.OUT_OF_GROUPS) {
      Check.outOfRange("serve, group " + bad, z -> z.serve(bad, 5));
    }
    for (int bad : new int[] {0, 101, -1, Integer.MIN_VALUE, Integer.MAX_VALUE}) {
      Check.outOfRange("serve, connections " + bad, z -> z.serve(0, bad));
    }
  }

  private static void promise12Tick() {
    StandbyPair x = new StandbyPair();
    Check.due("tick, one", x.tick(1), 1);
    Check.due("tick, most", x.tick(50), 51);
    Check.due("tick, some", x.tick(7), 58);

    StandbyPair once = Samples.pair();
    StandbyPair often = Samples.pair();
    once.tick(37);
    for (int n = 0; n < 37; n++) {
      often.tick(1);
    }
    Check.due("many ticks at once", Samples.reading(once), Samples.reading(often));

    for (int bad : new int[] {0, 51, -1, Integer.MIN_VALUE, Integer.MAX_VALUE}) {
      Check.outOfRange("tick, ticks " + bad, y -> y.tick(bad));
    }
  }
}
