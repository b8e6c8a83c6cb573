/** Objects in states that several tests begin with, and readings of a whole object. */
final class Samples {

  static final int[] OUT_OF_ROUTERS = {-1, 4, Integer.MIN_VALUE, Integer.MAX_VALUE};
  static final int[] OUT_OF_GROUPS = {-1, 3, Integer.MIN_VALUE, Integer.MAX_VALUE};
  static final int[] OUT_OF_LINKS = {-1, 2, Integer.MIN_VALUE, Integer.MAX_VALUE};

  private Samples() {}

  /** Routers 0 with priority 200 and 1 with 100 in group 0; their waits are 12 and 14. */
  static StandbyPair pair() {
    StandbyPair x = new StandbyPair();
    x.setPriority(0, 0, 200);
    x.setPriority(1, 0, 100);
    return x;
  }

  /** The pair at time 12: router 0 is the master, its timer is 4, the timer of router 1 is 13. */
  static StandbyPair runningPair() {
    StandbyPair x = pair();
    x.tick(12);
    return x;
  }

  /** The pair, cut and both masters, at time 25: router 0 advertises at 28, router 1 at 29. */
  static StandbyPair splitPair() {
    StandbyPair x = runningPair();
    x.join(0, 1, false);
    x.tick(13);
    return x;
  }

  /**
   * Something of everything: router 0 is alive and master of group 0, router 3 is dead, group 1 is
   * split, a bulk repair is asked for, backups have heard something, links are down.
   */
  static StandbyPair busy() {
    StandbyPair x = new StandbyPair();
    x.setPriority(0, 0, 200);
    x.setPriority(1, 0, 100);
    x.setPriority(0, 1, 50);
    x.setPriority(2, 1, 150);
    x.setPriority(1, 2, 30);
    x.setPriority(3, 2, 254);
    x.track(1, 1, 20);
    x.setLink(1, 1, false);
    x.track(2, 0, 7);
    x.tick(14);
    x.join(0, 2, false);
    x.setPeriod(1, 3);
    x.tick(15);
    x.serve(0, 60);
    x.serve(1, 9);
    x.setPreemption(0, true, 5);
    x.tick(4);
    x.setPriority(2, 0, 250);
    x.die(3);
    x.tick(9);
    return x;
  }

  /** All that can be read of an object, in one text; 73 calls. */
  static String reading(StandbyPair x) {
    StringBuilder text = new StringBuilder();
    for (int group = 0; group < 3; group++) {
      for (int router = 0; router < 4; router++) {
        int state = x.state(router, group);
        text.append(state).append(' ').append(x.priority(router, group)).append(' ');
        text.append(state == 0 ? "-" : "" + x.timer(router, group)).append(' ');
        text.append(x.changes(router, group)).append(' ').append(x.known(router, group));
        text.append(" | ");
      }
      text.append(x.masters(group)).append(' ').append(x.gaps(group)).append(' ');
      text.append(x.sent(group)).append(' ').append(x.isSettled(group)).append(" || ");
    }
    return text.append(x.repairs()).toString();
  }

  /** What an object answers from now on, which brings its settings and counts to light too. */
  static String trail(StandbyPair x) {
    StringBuilder text = new StringBuilder(reading(x));
    text.append(" then ");
    for (int step = 0; step < 5; step++) {
      for (int group = 0; group < 3; group++) {
        text.append(x.serve(group, 12)).append(' ');
      }
      text.append(x.tick(4)).append(' ').append(x.masters(0)).append(' ').append(x.masters(1));
      text.append(' ').append(x.known(1, 0)).append(' ').append(x.timer(2, 0)).append(' ');
    }
    text.append(reading(x)).append(" settings ");
    for (int router = 0; router < 4; router++) {
      for (int link = 0; link < 2; link++) {
        text.append(x.track(router, link, 0)).append(' ');
        text.append(x.setLink(router, link, true)).append(' ');
      }
      for (int other = router + 1; other < 4; other++) {
        text.append(x.join(router, other, true)).append(' ');
      }
    }
    for (int group = 0; group < 3; group++) {
      text.append(x.setPeriod(group, 1)).append(' ');
      for (int router = 0; router < 4; router++) {
        text.append(x.setPriority(router, group, 0)).append(' ');
      }
    }
    return text.append(x.live(3)).toString();
  }
}
