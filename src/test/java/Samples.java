import java.util.List;
import java.util.function.Supplier;

/** Objects in states that several tests begin with, and readings of a whole object. */
final class Samples {

  /** On each of these a refused call is tried. */
  static final List<Supplier<StandbyPair>> STATES =
      List.of(StandbyPair::new, Samples::splitPair, Samples::busy, Samples::allDead);

  static final int[] OUT_OF_ROUTERS = {-1, 4, Integer.MIN_VALUE, Integer.MAX_VALUE};
  static final int[] OUT_OF_GROUPS = {-1, 3, Integer.MIN_VALUE, Integer.MAX_VALUE};
  static final int[] OUT_OF_LINKS = {-1, 2, Integer.MIN_VALUE, Integer.MAX_VALUE};

  private Samples() {}

  /** Routers 0 with priority 200 and 1 with 100 in group 0; their waits are 12 and 14. */
  static StandbyPair pair() {
    StandbyPair x = new StandbyPair();
    x.setPriority(0, 0, 200);
    x.setPriority(1, 0, 100);
    return x;
  }

  /** The pair at time 12: router 0 is the master, its timer is 4, the timer of router 1 is 13. */
  static StandbyPair runningPair() {
    StandbyPair x = pair();
    x.tick(12);
    return x;
  }

  /** The pair, cut and both masters, at time 25: router 0 advertises at 28, router 1 at 29. */
  static StandbyPair splitPair() {
    StandbyPair x = runningPair();
    x.join(0, 1, false);
    x.tick(13);
    return x;
  }

  /**
   * Something of everything: router 0 is alive and master of group 0, router 3 is dead, group 1 is
   * split, a bulk repair is asked for, backups have heard something, links are down.
   */
  static StandbyPair busy() {
    StandbyPair x = new StandbyPair();
    x.setPriority(0, 0, 200);
    x.setPriority(1, 0, 100);
    x.setPriority(0, 1, 50);
    x.setPriority(2, 1, 150);
    x.setPriority(1, 2, 30);
    x.setPriority(3, 2, 254);
    x.track(1, 1, 20);
    x.setLink(1, 1, false);
    x.track(2, 0, 7);
    x.tick(14);
    x.join(0, 2, false);
    x.setPeriod(1, 3);
    x.tick(15);
    x.serve(0, 60);
    x.serve(1, 9);
    x.setPreemption(0, true, 5);
    x.tick(4);
    x.setPriority(2, 0, 250);
    x.die(3);
    x.tick(9);
    return x;
  }

  /** Dead routers that have base priorities, numbers of connections and settings all the same. */
  static StandbyPair allDead() {
    StandbyPair x = new StandbyPair();
    for (int router = 0; router < 4; router++) {
      for (int group = 0; group < 3; group++) {
        x.setPriority(router, group, 60 * router + group + 1);
      }
      x.track(router, 0, 10 + router);
      x.track(router, 1, 20 + router);
      x.setLink(router, router % 2, false);
    }
    x.join(0, 1, false);
    x.join(3, 2, false);
    x.tick(16);
    for (int group = 0; group < 3; group++) {
      x.setPeriod(group, 10 - group);
      x.setPreemption(group, group != 1, 3 * group + 2);
      x.serve(group, 40 + group);
    }
    for (int router = 0; router < 4; router++) {
      x.die(router);
    }
    return x;
  }

  /** All that can be read of an object, in one text; at most 73 calls. */
  static String reading(StandbyPair x) {
    StringBuilder text = new StringBuilder();
    for (int group = 0; group < 3; group++) {
      for (int router = 0; router < 4; router++) {
        int state = x.state(router, group);
        text.append(state).append(' ').append(x.priority(router, group)).append(' ');
        text.append(state == 0 ? "-" : "" + x.timer(router, group)).append(' ');
        text.append(x.changes(router, group)).append(' ').append(x.known(router, group));
        text.append(" | ");
      }
      text.append(x.masters(group)).append(' ').append(x.gaps(group)).append(' ');
      text.append(x.sent(group)).append(' ').append(x.isSettled(group)).append(" || ");
    }
    return text.append(x.repairs()).toString();
  }

  /**
   * What an object answers from now on, which brings to light what is heard and asked for too; at
   * most 458 calls, so that the object stays below its 512.
   */
  static String trail(StandbyPair x) {
    StringBuilder text = new StringBuilder(reading(x));
    for (int step = 0; step < 5; step++) {
      text.append(" then ");
      for (int group = 0; group < 3; group++) {
        text.append(x.serve(group, 12)).append(' ');
      }
      text.append(x.tick(4)).append(' ').append(reading(x));
    }
    return text.toString();
  }

  /**
   * What an object holds that nothing reads: who is alive, the base priorities, links, decrements,
   * who is joined with whom, periods, pre-emption and delays; some 170 calls that end the object.
   */
  static String settings(StandbyPair x) {
    StringBuilder text = new StringBuilder();
    for (int router = 0; router < 4; router++) {
      int r = router;
      text.append(Check.thrownBy(x, y -> y.live(r))).append(' ');
      for (int link = 0; link < 2; link++) {
        text.append(x.track(router, link, 0)).append(' ');
        text.append(x.setLink(router, link, true)).append(' ');
      }
      for (int other = 0; other < router; other++) {
        text.append(x.join(router, other, true)).append(' ');
      }
      for (int group = 0; group < 3; group++) {
        text.append(x.setPriority(router, group, 0)).append(' ');
      }
    }
    for (int group = 0; group < 3; group++) {
      text.append(x.setPeriod(group, 1)).append(' ');
      x.setPriority(0, group, 1);
    }
    text.append(x.tick(3)).append(' ');
    // Router 0 advertises 1 at each tick now: how long router 1 waits tells the delay.
    for (int group = 0; group < 3; group++) {
      x.setPriority(1, group, 254);
    }
    for (int n = 0; n < 15; n++) {
      x.tick(1);
      for (int group = 0; group < 3; group++) {
        text.append(x.timer(1, group)).append(' ');
      }
    }
    return text.toString();
  }
}
