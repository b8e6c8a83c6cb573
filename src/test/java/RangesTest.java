import java.util.function.Supplier;

/**
 * The ranges of all parameters, just inside and just outside, which exception comes first, and that
 * a refused call changes nothing. Check.outOfRange tries each call on several states.
 */
public final class RangesTest {

  public static void main(String[] args) {
    settingsInside();
    happeningsInside();
    readingsInside();
    settingsOutside();
    happeningsOutside();
    readingsOutside();
    pairsOfRouters();
    rangeComesBeforeState();
    refusedStates();
    manyRefused();
    Check.end();
  }

  private static void settingsInside() {
    for (int router = 0; router < 4; router++) {
      for (int group = 0; group < 3; group++) {
        StandbyPair x = new StandbyPair();
        String place = " of router " + router + " in group " + group;
        Check.due("base priority 0" + place, x.setPriority(router, group, 0), 0);
        Check.due("base priority 1" + place, x.setPriority(router, group, 1), 0);
        Check.due("base priority 254" + place, x.setPriority(router, group, 254), 1);
        Check.due("base priority 254 stands" + place, x.priority(router, group), 254);
        Check.due("base priority 0 again" + place, x.setPriority(router, group, 0), 254);
      }
      for (int link = 0; link < 2; link++) {
        StandbyPair x = new StandbyPair();
        String place = " of link " + link + " of router " + router;
        Check.due("decrement 0" + place, x.track(router, link, 0), 0);
        Check.due("decrement 100" + place, x.track(router, link, 100), 0);
        Check.due("decrement 1" + place, x.track(router, link, 1), 100);
        Check.due("decrement 1 stands" + place, x.track(router, link, 1), 1);
        Check.due("down" + place, x.setLink(router, link, false), true);
        Check.due("up" + place, x.setLink(router, link, true), false);
      }
    }
    for (int group = 0; group < 3; group++) {
      StandbyPair x = new StandbyPair();
      Check.due("period 1 of group " + group, x.setPeriod(group, 1), 4);
      Check.due("period 10 of group " + group, x.setPeriod(group, 10), 1);
      Check.due("period 10 stands in group " + group, x.setPeriod(group, 4), 10);
      int g = group;
      for (int delay = 0; delay <= 10; delay++) {
        int d = delay;
        Check.accepted("delay " + d + " of group " + g, x, y -> y.setPreemption(g, true, d));
        Check.accepted("delay " + d + ", off", x, y -> y.setPreemption(g, false, d));
      }
    }
  }

  private static void happeningsInside() {
    for (int router = 0; router < 4; router++) {
      StandbyPair x = new StandbyPair();
      Check.due("die of router " + router, x.die(router), 0);
      Check.due("live of router " + router, x.live(router), 0);
      for (int group = 0; group < 3; group++) {
        x.setPriority(router, group, 254);
      }
      x.tick(12);
      for (int group = 0; group < 3; group++) {
        Check.due("1 connection", x.serve(group, 1), 1);
        Check.due("100 connections", x.serve(group, 100), 1);
        Check.due("101 in all", x.known(router, group), 101);
        x.handOver(router, group);
        Check.due("handed over", x.state(router, group), 1);
      }
    }
    StandbyPair x = new StandbyPair();
    Check.due("1 tick", x.tick(1), 1);
    Check.due("50 ticks", x.tick(50), 51);
    Check.due("49 ticks", x.tick(49), 100);
  }

  private static void readingsInside() {
    StandbyPair x = new StandbyPair();
    for (int group = 0; group < 3; group++) {
      for (int router = 0; router < 4; router++) {
        x.setPriority(router, group, 10 * router + group + 1);
      }
    }
    for (int group = 0; group < 3; group++) {
      for (int router = 0; router < 4; router++) {
        Check.due("state", x.state(router, group), 1);
        Check.due("priority", x.priority(router, group), 10 * router + group + 1);
        Check.due("timer", x.timer(router, group), 15);
        Check.due("changes", x.changes(router, group), 0);
        Check.due("known", x.known(router, group), 0);
      }
      Check.due("masters", x.masters(group), 0);
      Check.due("gaps", x.gaps(group), 0);
      Check.due("sent", x.sent(group), 0);
      Check.due("isSettled", x.isSettled(group), false);
    }
  }

  private static void settingsOutside() {
    for (int bad : Samples.OUT_OF_ROUTERS) {
      for (int priority : new int[] {0, 254}) {
        Check.outOfRange("setPriority, router " + bad, x -> x.setPriority(bad, 2, priority));
      }
      Check.outOfRange("track, router " + bad, x -> x.track(bad, 1, 100));
      Check.outOfRange("setLink, router " + bad, x -> x.setLink(bad, 1, false));
    }
    for (int bad : Samples.OUT_OF_GROUPS) {
      for (int router = 0; router < 4; router++) {
        int r = router;
        Check.outOfRange("setPriority, group " + bad, x -> x.setPriority(r, bad, 0));
        Check.outOfRange("setPriority, group " + bad, x -> x.setPriority(r, bad, 77));
      }
      Check.outOfRange("setPeriod, group " + bad, x -> x.setPeriod(bad, 10));
      Check.outOfRange("setPreemption, group " + bad, x -> x.setPreemption(bad, false, 10));
    }
    for (int router = 0; router < 4; router++) {
      int r = router;
      for (int bad : Samples.OUT_OF_LINKS) {
        Check.outOfRange("track, link " + bad, x -> x.track(r, bad, 33));
        Check.outOfRange("setLink, link " + bad, x -> x.setLink(r, bad, r % 2 == 0));
      }
      for (int bad : new int[] {-1, 101}) {
        Check.outOfRange("track, decrement " + bad, x -> x.track(r, 0, bad));
        Check.outOfRange("track, decrement " + bad, x -> x.track(r, 1, bad));
      }
      for (int group = 0; group < 3; group++) {
        int g = group;
        for (int bad : new int[] {-1, 255}) {
          Check.outOfRange("setPriority, priority " + bad, x -> x.setPriority(r, g, bad));
        }
      }
    }
    for (int group = 0; group < 3; group++) {
      int g = group;
      for (int bad : new int[] {0, 11}) {
        Check.outOfRange("setPeriod, ticks " + bad, x -> x.setPeriod(g, bad));
      }
      for (int bad : new int[] {-1, 11}) {
        Check.outOfRange("setPreemption, off, delay " + bad, x -> x.setPreemption(g, false, bad));
        Check.outOfRange("setPreemption, on, delay " + bad, x -> x.setPreemption(g, true, bad));
      }
    }
  }

  private static void happeningsOutside() {
    for (int bad : Samples.OUT_OF_ROUTERS) {
      Check.outOfRange("die, router " + bad, x -> x.die(bad));
      Check.outOfRange("live, router " + bad, x -> x.live(bad));
    }
    for (int bad : Samples.OUT_OF_GROUPS) {
      Check.outOfRange("serve, group " + bad, x -> x.serve(bad, 1));
      Check.outOfRange("serve, group " + bad, x -> x.serve(bad, 101));
    }
    for (int group = 0; group < 3; group++) {
      int g = group;
      for (int bad : new int[] {0, 101, -1}) {
        Check.outOfRange("serve, connections " + bad, x -> x.serve(g, bad));
      }
    }
    for (int bad : new int[] {0, 51, -1, 100, Integer.MIN_VALUE, Integer.MAX_VALUE}) {
      Check.outOfRange("tick, ticks " + bad, x -> x.tick(bad));
    }
  }

  private static void readingsOutside() {
    for (int bad : Samples.OUT_OF_ROUTERS) {
      for (int group = 0; group < 3; group++) {
        int g = group;
        Check.outOfRange("state, router " + bad, x -> x.state(bad, g));
        Check.outOfRange("priority, router " + bad, x -> x.priority(bad, g));
        Check.outOfRange("changes, router " + bad, x -> x.changes(bad, g));
        Check.outOfRange("known, router " + bad, x -> x.known(bad, g));
      }
    }
    for (int bad : Samples.OUT_OF_GROUPS) {
      for (int router = 0; router < 4; router++) {
        int r = router;
        Check.outOfRange("state, group " + bad, x -> x.state(r, bad));
        Check.outOfRange("priority, group " + bad, x -> x.priority(r, bad));
        Check.outOfRange("changes, group " + bad, x -> x.changes(r, bad));
        Check.outOfRange("known, group " + bad, x -> x.known(r, bad));
      }
      Check.outOfRange("masters, group " + bad, x -> x.masters(bad));
      Check.outOfRange("gaps, group " + bad, x -> x.gaps(bad));
      Check.outOfRange("sent, group " + bad, x -> x.sent(bad));
      Check.outOfRange("isSettled, group " + bad, x -> x.isSettled(bad));
    }
  }

  /** Two routers must differ, each is 0 to 3, and the order in which they are named is all one. */
  private static void pairsOfRouters() {
    for (int one = 0; one < 4; one++) {
      for (int other = 0; other < 4; other++) {
        int a = one;
        int b = other;
        if (a == b) {
          Check.outOfRange("join, cut from itself", x -> x.join(a, b, false));
          Check.outOfRange("join, joined with itself", x -> x.join(a, b, true));
        } else {
          cutAlone(a, b);
        }
      }
      for (int bad : Samples.OUT_OF_ROUTERS) {
        int a = one;
        Check.outOfRange("join, one " + bad, x -> x.join(bad, a, false));
        Check.outOfRange("join, other " + bad, x -> x.join(a, bad, false));
      }
    }
    for (int bad : Samples.OUT_OF_ROUTERS) {
      Check.outOfRange("join, both " + bad, x -> x.join(bad, bad, true));
    }
  }

  private static void cutAlone(int one, int other) {
    StandbyPair x = new StandbyPair();
    Check.due("joined at first", x.join(one, other, false), true);
    for (int a = 0; a < 4; a++) {
      for (int b = 0; b < 4; b++) {
        if (a != b) {
          boolean same = a == one && b == other || a == other && b == one;
          Check.due("only these two are cut", x.join(a, b, !same), !same);
        }
      }
    }
    Check.due("joined again", x.join(other, one, true), false);
    Check.due("both ways", x.join(one, other, true), true);
  }

  /** 'If several exceptions apply, the one that is documented first is thrown.' */
  private static void rangeComesBeforeState() {
    for (int bad : Samples.OUT_OF_ROUTERS) {
      for (int group = 0; group < 3; group++) {
        int g = group;
        Check.outOfRange("handOver, router " + bad, x -> x.handOver(bad, g));
        Check.outOfRange("timer, router " + bad, x -> x.timer(bad, g));
      }
    }
    for (int bad : Samples.OUT_OF_GROUPS) {
      for (int router = 0; router < 4; router++) {
        int r = router;
        Check.outOfRange("handOver, group " + bad, x -> x.handOver(r, bad));
        Check.outOfRange("timer, group " + bad, x -> x.timer(r, bad));
      }
    }
    Check.outOfRange("handOver, both out of range", x -> x.handOver(-1, 3));
    Check.outOfRange("timer, both out of range", x -> x.timer(4, -1));
  }

  /** What is in range is refused exactly where the state of the router is not the one it needs. */
  private static void refusedStates() {
    for (Supplier<StandbyPair> made : Samples.STATES) {
      for (int router = 0; router < 4; router++) {
        int r = router;
        if (isAlive(made.get(), r)) {
          Check.accepted("die, alive " + r, made.get(), x -> x.die(r));
          Check.illegalState("live, alive " + r, made, x -> x.live(r));
        } else {
          Check.accepted("live, dead " + r, made.get(), x -> x.live(r));
          Check.illegalState("die, dead " + r, made, x -> x.die(r));
        }
        for (int group = 0; group < 3; group++) {
          int g = group;
          int state = made.get().state(r, g);
          if (state == 2) {
            Check.accepted("handOver, a master", made.get(), x -> x.handOver(r, g));
          } else {
            Check.illegalState("handOver, no master", made, x -> x.handOver(r, g));
          }
          if (state == 0) {
            Check.illegalState("timer, no part", made, x -> x.timer(r, g));
          } else {
            Check.accepted("timer, takes part", made.get(), x -> x.timer(r, g));
          }
        }
      }
    }
  }

  private static boolean isAlive(StandbyPair x, int router) {
    x.setPriority(router, 0, 9);
    return x.state(router, 0) != 0;
  }

  /** One refused call after the other: still nothing has changed. */
  private static void manyRefused() {
    for (Supplier<StandbyPair> made : Samples.STATES) {
      StandbyPair x = made.get();
      for (int n = 0; n < 3; n++) {
        Check.due("tick", Check.thrownBy(x, y -> y.tick(51)),
            "java.lang.IllegalArgumentException");
        Check.due("serve", Check.thrownBy(x, y -> y.serve(0, 101)),
            "java.lang.IllegalArgumentException");
        Check.due("setPeriod", Check.thrownBy(x, y -> y.setPeriod(0, 0)),
            "java.lang.IllegalArgumentException");
        Check.due("setPreemption", Check.thrownBy(x, y -> y.setPreemption(0, false, 11)),
            "java.lang.IllegalArgumentException");
      }
      Check.due("as if none was", Samples.trail(x), Samples.trail(made.get()));
    }
  }
}
