/** Promises 1 to 6: a new object and the settings. */
public final class SettingsTest {

  public static void main(String[] args) {
    promise1NewObject();
    promise2SetPriority();
    promise2LeavingAndComingBack();
    promise2Dead();
    promise2OutOfRange();
    promise3Track();
    promise4SetLink();
    promise5SetPeriod();
    promise6SetPreemption();
    promise6Delay();
    promise6Edges();
    Check.end();
  }

  private static void promise1NewObject() {
    StandbyPair x = new StandbyPair();
    for (int group = 0; group < 3; group++) {
      for (int router = 0; router < 4; router++) {
        int r = router;
        int g = group;
        Check.due("new: state", x.state(router, group), 0);
        Check.due("new: priority", x.priority(router, group), 0);
        Check.due("new: changes", x.changes(router, group), 0);
        Check.due("new: known", x.known(router, group), 0);
        Check.due("new: timer throws", Check.thrownBy(x, y -> y.timer(r, g)),
            "java.lang.IllegalStateException");
      }
      Check.due("new: masters", x.masters(group), 0);
      Check.due("new: gaps", x.gaps(group), 0);
      Check.due("new: sent", x.sent(group), 0);
      Check.due("new: isSettled", x.isSettled(group), true);
      Check.due("new: serve", x.serve(group, 5), 0);
    }
    Check.due("new: repairs", x.repairs(), 0);
    for (int router = 0; router < 4; router++) {
      for (int group = 0; group < 3; group++) {
        Check.due("new: base priority", x.setPriority(router, group, 0), 0);
      }
      for (int link = 0; link < 2; link++) {
        Check.due("new: decrement", x.track(router, link, 0), 0);
        Check.due("new: link", x.setLink(router, link, true), true);
      }
      for (int other = 0; other < 4; other++) {
        if (other != router) {
          Check.due("new: joined", x.join(router, other, true), true);
        }
      }
      Check.due("new: alive", x.die(router), 0);
    }
    for (int group = 0; group < 3; group++) {
      Check.due("new: period", x.setPeriod(group, 4), 4);
    }
    Check.due("new: the first tick", x.tick(1), 1);
  }

  private static void promise2SetPriority() {
    StandbyPair x = new StandbyPair();
    Check.due("setPriority, first", x.setPriority(3, 2, 254), 0);
    Check.due("a backup", x.state(3, 2), 1);
    Check.due("the wait at 254", x.timer(3, 2), 12);
    Check.due("other groups", x.state(3, 0) + x.state(3, 1), 0);
    Check.due("other routers", x.state(0, 2) + x.state(1, 2) + x.state(2, 2), 0);
    Check.due("setPriority, again", x.setPriority(3, 2, 1), 254);
    Check.due("timers that run do not change", x.timer(3, 2), 12);
    Check.due("the new priority", x.priority(3, 2), 1);
    x.setPriority(2, 2, 1);
    Check.due("the wait at 1", x.timer(2, 2), 15);
    x.setPriority(1, 2, 192);
    Check.due("the wait at 192", x.timer(1, 2), 13);
    x.setPriority(0, 2, 193);
    Check.due("the wait at 193", x.timer(0, 2), 12);
    Check.due("nothing was sent", x.sent(2), 0);
  }

  private static void promise2LeavingAndComingBack() {
    StandbyPair x = Samples.runningPair();
    x.serve(0, 7);
    Check.due("leaving", x.setPriority(0, 0, 0), 200);
    Check.due("it takes no part", x.state(0, 0), 0);
    Check.due("a leaving master advertises 0", x.sent(0), 2);
    Check.due("the backup is quick then", x.timer(1, 0), 3);
    Check.due("the backup copies", x.known(1, 0), 7);
    Check.due("what it served stays", x.known(0, 0), 7);
    Check.due("coming back", x.setPriority(0, 0, 200), 0);
    Check.due("as a backup", x.state(0, 0), 1);
    Check.due("with its wait", x.timer(0, 0), 12);
    Check.due("still knowing", x.known(0, 0), 7);
    Check.due("a leaving backup", x.setPriority(0, 0, 0), 200);
    Check.due("advertises nothing", x.sent(0), 2);
    Check.due("and quickens nobody", x.timer(1, 0), 3);

    StandbyPair cut = Samples.runningPair();
    cut.join(0, 1, false);
    cut.setPriority(0, 0, 0);
    Check.due("the cut do not hear it", cut.timer(1, 0), 13);
    Check.due("but it was sent", cut.sent(0), 2);

    StandbyPair lowered = Samples.runningPair();
    lowered.setPriority(0, 0, 1);
    Check.due("a master that stays", lowered.state(0, 0), 2);
    Check.due("advertises nothing then", lowered.sent(0), 1);
  }

  private static void promise2Dead() {
    StandbyPair x = new StandbyPair();
    x.die(2);
    Check.due("setPriority of a dead router", x.setPriority(2, 1, 90), 0);
    Check.due("it takes no part", x.state(2, 1), 0);
    Check.due("it has no priority", x.priority(2, 1), 0);
    Check.due("setPriority of it again", x.setPriority(2, 1, 80), 90);
    Check.due("live", x.live(2), 1);
    Check.due("it takes part", x.priority(2, 1), 80);
  }

  private static void promise2OutOfRange() {
    for (int bad : Samples.OUT_OF_ROUTERS) {
      Check.outOfRange("setPriority, router " + bad, x -> x.setPriority(bad, 0, 1));
    }
    for (int bad : Samples.OUT_OF_GROUPS) {
      Check.outOfRange("setPriority, group " + bad, x -> x.setPriority(0, bad, 0));
    }
    for (int bad : new int[] {-1, 255, Integer.MIN_VALUE, Integer.MAX_VALUE}) {
      Check.outOfRange("setPriority, priority " + bad, x -> x.setPriority(0, 0, bad));
    }
  }

  private static void promise3Track() {
    StandbyPair x = Samples.pair();
    Check.due("track, first", x.track(0, 0, 30), 0);
    Check.due("track, the other link", x.track(0, 1, 100), 0);
    Check.due("links that are up lower nothing", x.priority(0, 0), 200);
    x.setLink(0, 0, false);
    Check.due("a link that is down does", x.priority(0, 0), 170);
    Check.due("track, again", x.track(0, 0, 55), 30);
    Check.due("at once", x.priority(0, 0), 145);
    Check.due("timers that run do not change", x.timer(0, 0), 12);
    Check.due("other routers", x.priority(1, 0), 100);
    Check.due("track, back to 0", x.track(0, 0, 0), 55);
    Check.due("lowers nothing", x.priority(0, 0), 200);
    Check.due("the other link's", x.track(0, 1, 0), 100);
    Check.due("track of router 3", x.track(3, 1, 9), 0);
    Check.due("track of router 3, again", x.track(3, 1, 9), 9);
    for (int bad : Samples.OUT_OF_ROUTERS) {
      Check.outOfRange("track, router " + bad, y -> y.track(bad, 0, 1));
    }
    for (int bad : Samples.OUT_OF_LINKS) {
      Check.outOfRange("track, link " + bad, y -> y.track(1, bad, 1));
    }
    for (int bad : new int[] {-1, 101, Integer.MIN_VALUE, Integer.MAX_VALUE}) {
      Check.outOfRange("track, decrement " + bad, y -> y.track(1, 1, bad));
    }
  }

  private static void promise4SetLink() {
    StandbyPair x = Samples.pair();
    x.track(1, 0, 60);
    x.track(1, 1, 39);
    Check.due("setLink, down", x.setLink(1, 0, false), true);
    Check.due("setLink, still down", x.setLink(1, 0, false), false);
    Check.due("one link down", x.priority(1, 0), 40);
    Check.due("setLink, the other", x.setLink(1, 1, false), true);
    Check.due("both links down", x.priority(1, 0), 1);
    x.track(1, 1, 100);
    Check.due("1 at least", x.priority(1, 0), 1);
    x.setPriority(1, 1, 161);
    Check.due("a link counts in all groups", x.priority(1, 1), 1);
    Check.due("the wait is that of the lowered priority", x.timer(1, 1), 15);
    Check.due("setLink, up", x.setLink(1, 1, true), false);
    Check.due("setLink, still up", x.setLink(1, 1, true), true);
    Check.due("up again", x.priority(1, 1), 101);
    Check.due("timers that run do not change", x.timer(1, 1), 15);
    Check.due("links of router 3", x.setLink(3, 1, false), true);
    Check.due("links of router 3, again", x.setLink(3, 1, true), false);
    for (int bad : Samples.OUT_OF_ROUTERS) {
      Check.outOfRange("setLink, router " + bad, y -> y.setLink(bad, 0, false));
    }
    for (int bad : Samples.OUT_OF_LINKS) {
      Check.outOfRange("setLink, link " + bad, y -> y.setLink(1, bad, false));
    }
  }

  private static void promise5SetPeriod() {
    StandbyPair x = Samples.pair();
    Check.due("setPeriod, first", x.setPeriod(0, 10), 4);
    Check.due("setPeriod, again", x.setPeriod(0, 1), 10);
    Check.due("other groups", x.setPeriod(1, 10), 4);
    Check.due("timers that run do not change", x.timer(0, 0), 12);
    x.setPriority(2, 0, 1);
    Check.due("the wait with period 1", x.timer(2, 0), 3);
    x.setPriority(2, 1, 1);
    Check.due("the wait with period 10", x.timer(2, 1), 39);
    x.setPriority(3, 1, 205);
    Check.due("the wait with period 10, rounded down", x.timer(3, 1), 31);
    x.setPriority(1, 1, 128);
    Check.due("the wait with period 10, nothing to round", x.timer(1, 1), 35);
    x.setPriority(0, 1, 129);
    Check.due("the wait with period 10, one better", x.timer(0, 1), 34);
    x.tick(3);
    Check.due("a master after the wait", x.masters(0), 4);
    Check.due("advertises after the period", x.timer(2, 0), 1);
    x.tick(5);
    Check.due("each period", x.sent(0), 6);
    for (int bad : Samples.OUT_OF_GROUPS) {
      Check.outOfRange("setPeriod, group " + bad, y -> y.setPeriod(bad, 2));
    }
    for (int bad : new int[] {0, 11, -1, Integer.MIN_VALUE, Integer.MAX_VALUE}) {
      Check.outOfRange("setPeriod, ticks " + bad, y -> y.setPeriod(0, bad));
    }
  }

  private static void promise6SetPreemption() {
    StandbyPair on = Samples.runningPair();
    on.setPriority(2, 0, 250);
    on.tick(12);
    Check.due("pre-emption is on at first", on.masters(0), 4);

    StandbyPair off = Samples.runningPair();
    off.setPreemption(0, false, 0);
    off.setPriority(2, 0, 250);
    off.tick(50);
    Check.due("off: the better router waits", off.masters(0), 1);
    off.setPreemption(1, true, 0);
    off.tick(50);
    Check.due("off: other groups do not count", off.masters(0), 1);
    off.setPreemption(0, true, 0);
    off.tick(15);
    Check.due("on again: the better router takes over", off.masters(0), 4);
  }

  private static void promise6Delay() {
    // Router 0 advertises at 16, 20, 24, ..; router 2 begins at 12 with a wait of 12.
    StandbyPair x = Samples.runningPair();
    x.setPreemption(0, true, 2);
    x.setPriority(2, 0, 250);
    x.tick(4);
    Check.due("heard once: the whole wait again", x.timer(2, 0), 11);
    x.tick(4);
    Check.due("heard twice: the whole wait again", x.timer(2, 0), 11);
    x.tick(4);
    Check.due("then the timer runs on", x.timer(2, 0), 7);
    x.tick(6);
    Check.due("one tick before", x.masters(0), 1);
    x.tick(1);
    Check.due("it takes over", x.masters(0), 4);

    StandbyPair y = Samples.runningPair();
    y.setPreemption(0, true, 2);
    y.setPriority(2, 0, 250);
    y.tick(8);
    y.setPriority(2, 0, 150);
    y.tick(4);
    Check.due("one that is no better has its whole wait", y.timer(2, 0), 12);
    y.setPriority(2, 0, 250);
    y.tick(8);
    Check.due("and hears two more from 0 on", y.timer(2, 0), 11);
    y.tick(4);
    Check.due("until its timer runs on", y.timer(2, 0), 7);
  }

  private static void promise6Edges() {
    StandbyPair x = Samples.runningPair();
    x.setPreemption(0, true, 10);
    x.setPriority(2, 0, 201);
    x.tick(40);
    Check.due("ten were heard", x.timer(2, 0), 11);
    x.tick(4);
    Check.due("the eleventh is not", x.timer(2, 0), 7);

    StandbyPair same = Samples.runningPair();
    same.setPriority(2, 0, 200);
    same.tick(50);
    Check.due("the same priority does not pre-empt", same.masters(0), 1);

    for (int bad : Samples.OUT_OF_GROUPS) {
      Check.outOfRange("setPreemption, group " + bad, y -> y.setPreemption(bad, false, 0));
    }
    for (int bad : new int[] {-1, 11, Integer.MIN_VALUE, Integer.MAX_VALUE}) {
      Check.outOfRange("setPreemption, delay " + bad, y -> y.setPreemption(0, false, bad));
    }
  }
}
