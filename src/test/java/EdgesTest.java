/**
 * The sentences of 'Terms' and of the promises that name a boundary: who takes part, priorities,
 * waits, timers, beginning again, gaps. Each test stands under the words that it looks at; what is
 * heard and copied stands in HearingTest.
 */
public final class EdgesTest {

  public static void main(String[] args) {
    takesPartFromOneOn();
    priorityIsOneAtLeast();
    oneIsAdvertisedAtLeast();
    waitIsRoundedDown();
    waitsOfAllPriorities();
    quickTimerIsRoundedDown();
    quickTimersOfAllPriorities();
    backupTimerBecomesZero();
    masterTimerBecomesZero();
    mastersBeforeBackups();
    runningTimersOfBackups();
    runningTimersOfMasters();
    runningTimersAfterFarewell();
    beginsAgainAfterDeath();
    beginsAgainAfterPriorityZero();
    priorityZeroWhileDead();
    anotherPriorityIsNoBeginning();
    whatStaysOutside();
    farewellOnlyOfLeavingMasters();
    diesWithoutFarewell();
    mastersThatDie();
    groupsThatLiveAgain();
    gapsWithoutMasters();
    noGapWithAMaster();
    mastersOfAGroup();
    settledPairs();
    settledWithoutMaster();
    becomingMasterCounts();
    lastCalls();
    Check.end();
  }

  // 'it takes part in a group if it is alive and its base priority is greater than 0'
  private static void takesPartFromOneOn() {
    for (int router = 0; router < 4; router++) {
      for (int group = 0; group < 3; group++) {
        int r = router;
        int g = group;
        StandbyPair x = new StandbyPair();
        x.setPriority(r, g, 0);
        Check.due("base priority 0: state", x.state(r, g), 0);
        Check.due("base priority 0: priority", x.priority(r, g), 0);
        x.setPriority(r, g, 1);
        Check.due("base priority 1: state", x.state(r, g), 1);
        Check.due("base priority 1: priority", x.priority(r, g), 1);
        x.die(r);
        Check.due("dead: state", x.state(r, g), 0);
        x.setPriority(r, g, 254);
        Check.due("dead, base priority 254: state", x.state(r, g), 0);
        Check.due("dead, base priority 254: priority", x.priority(r, g), 0);
        Check.due("dead: timer throws", Check.thrownBy(x, y -> y.timer(r, g)),
            "java.lang.IllegalStateException");
        x.live(r);
        Check.due("alive: state", x.state(r, g), 1);
        Check.due("alive: priority", x.priority(r, g), 254);
        x.setPriority(r, g, 0);
        Check.due("base priority 0 again: state", x.state(r, g), 0);
        Check.due("base priority 0 again: timer throws", Check.thrownBy(x, y -> y.timer(r, g)),
            "java.lang.IllegalStateException");
      }
    }
  }

  // 'The priority of a router in a group is its base priority less the decrements of its links
  // that are down, but 1 at least.'
  private static void priorityIsOneAtLeast() {
    // base priority, decrements of the links 0 and 1, priority with link 0, 1, both down
    int[][] rows = {
      {254, 0, 0, 254, 254, 254},
      {254, 100, 100, 154, 154, 54},
      {102, 100, 1, 2, 101, 1},
      {101, 100, 1, 1, 100, 1},
      {100, 100, 98, 1, 2, 1},
      {99, 100, 97, 1, 2, 1},
      {202, 100, 100, 102, 102, 2},
      {201, 100, 100, 101, 101, 1},
      {200, 100, 100, 100, 100, 1},
      {1, 100, 100, 1, 1, 1},
      {1, 0, 1, 1, 1, 1},
      {2, 1, 0, 1, 2, 1},
      {3, 1, 1, 2, 2, 1},
    };
    for (int[] row : rows) {
      for (int router = 0; router < 4; router++) {
        StandbyPair x = new StandbyPair();
        x.setPriority(router, 1, row[0]);
        x.track(router, 0, row[1]);
        x.track(router, 1, row[2]);
        String base = "base " + row[0] + " less " + row[1] + " and " + row[2];
        Check.due(base + ", both up", x.priority(router, 1), row[0]);
        x.setLink(router, 0, false);
        Check.due(base + ", link 0 down", x.priority(router, 1), row[3]);
        x.setLink(router, 1, false);
        Check.due(base + ", both down", x.priority(router, 1), row[5]);
        x.setLink(router, 0, true);
        Check.due(base + ", link 1 down", x.priority(router, 1), row[4]);
        Check.due(base + ", base priority", x.setPriority(router, 1, 5), row[0]);
        Check.due(base + ", not without a base priority", x.priority(router, 0), 0);
        for (int other = 0; other < 4; other++) {
          Check.due("no part in it", other != router && x.priority(other, 1) != 0, false);
        }
      }
    }
  }

  // The same: the number that is advertised is 1 at least too, so it is no 0 and nothing below it.
  private static void oneIsAdvertisedAtLeast() {
    for (int base : new int[] {1, 199, 200, 201}) {
      StandbyPair x = loweredByLinks(2, base);
      Check.due("lowered to 1", x.priority(2, 0), 1);
      Check.due("the wait of priority 1", x.timer(2, 0), 15);
      // It comes to be a master alone, and is first heard at 19.
      x.tick(15);
      x.setPriority(1, 0, 1);
      x.tick(4);
      Check.due("1 against 1: the whole wait", x.timer(1, 0), 14);
      x.setPriority(0, 0, 2);
      Check.due("the wait of priority 2", x.timer(0, 0), 15);
      x.tick(4);
      Check.due("2 against 1 is greater", x.timer(0, 0), 11);
      Check.due("1 against 1 is not", x.timer(1, 0), 14);

      StandbyPair split = loweredByLinks(1, base);
      split.join(1, 2, false);
      split.setPriority(2, 0, 1);
      split.tick(15);
      Check.due("two masters", split.masters(0), 6);
      split.join(1, 2, true);
      split.tick(4);
      Check.due("1 against 1: the greater number", split.masters(0), 4);
      Check.due("both advertised", split.sent(0), 4);
    }
  }

  /** A router whose links, both down, have the decrement 100, with a base priority in group 0. */
  private static StandbyPair loweredByLinks(int router, int base) {
    StandbyPair x = new StandbyPair();
    for (int link = 0; link < 2; link++) {
      x.track(router, link, 100);
      x.setLink(router, link, false);
    }
    x.setPriority(router, 0, base);
    return x;
  }

  // 'The wait of a router in a group is 3 periods plus the quotient of the period times (256 less
  // its priority) by 256, rounded down.'
  private static void waitIsRoundedDown() {
    // period, priority, wait: where the quotient is whole, and one better
    int[][] rows = {
      {1, 1, 3}, {1, 254, 3},
      {2, 1, 7}, {2, 128, 7}, {2, 129, 6}, {2, 254, 6},
      {3, 85, 11}, {3, 86, 10}, {3, 170, 10}, {3, 171, 9},
      {4, 1, 15}, {4, 64, 15}, {4, 65, 14}, {4, 128, 14}, {4, 129, 13}, {4, 192, 13},
      {4, 193, 12}, {4, 254, 12},
      {5, 51, 19}, {5, 52, 18}, {5, 204, 16}, {5, 205, 15},
      {6, 213, 19}, {6, 214, 18},
      {7, 36, 27}, {7, 37, 26}, {7, 219, 22}, {7, 220, 21},
      {8, 1, 31}, {8, 32, 31}, {8, 33, 30}, {8, 224, 25}, {8, 225, 24},
      {9, 227, 28}, {9, 228, 27},
      {10, 1, 39}, {10, 25, 39}, {10, 26, 38}, {10, 128, 35}, {10, 129, 34}, {10, 230, 31},
      {10, 231, 30}, {10, 254, 30},
    };
    for (int[] row : rows) {
      StandbyPair x = new StandbyPair();
      x.setPeriod(2, row[0]);
      x.setPriority(1, 2, row[1]);
      Check.due("the wait of " + row[1] + " with period " + row[0], x.timer(1, 2), row[2]);
    }
  }

  /** The greatest quotient whose 256-fold is not above, found without a division. */
  private static int quotient(int period, int priority) {
    int quotient = 0;
    while ((quotient + 1) * 256 <= period * (256 - priority)) {
      quotient++;
    }
    return quotient;
  }

  private static void waitsOfAllPriorities() {
    for (int period = 1; period <= 10; period++) {
      for (int priority = 1; priority <= 254; priority++) {
        StandbyPair x = new StandbyPair();
        x.setPeriod(0, period);
        x.setPriority(0, 0, priority);
        Check.due("the wait of " + priority + " with period " + period, x.timer(0, 0),
            3 * period + quotient(period, priority));
      }
    }
  }

  // 'if the number is 0, its timer becomes the quotient of the period times (256 less its
  // priority) by 256, rounded down, plus 1'
  private static void quickTimerIsRoundedDown() {
    // period, priority, timer
    int[][] rows = {
      {1, 1, 1}, {1, 254, 1},
      {2, 128, 2}, {2, 129, 1},
      {4, 1, 4}, {4, 64, 4}, {4, 65, 3}, {4, 192, 2}, {4, 193, 1}, {4, 254, 1},
      {10, 1, 10}, {10, 25, 10}, {10, 26, 9}, {10, 128, 6}, {10, 129, 5}, {10, 230, 2},
      {10, 231, 1}, {10, 254, 1},
    };
    for (int[] row : rows) {
      StandbyPair x = handedOver(row[0], row[1]);
      Check.due("the quick timer of " + row[1] + " with period " + row[0], x.timer(1, 1), row[2]);
      if (row[2] > 1) {
        x.tick(row[2] - 1);
        Check.due("a tick before it ends", x.state(1, 1), 1);
      }
      x.tick(1);
      Check.due("when it ends", x.state(1, 1), 2);
    }
  }

  private static void quickTimersOfAllPriorities() {
    for (int period = 1; period <= 10; period++) {
      for (int priority = 1; priority <= 254; priority++) {
        StandbyPair x = handedOver(period, priority);
        Check.due("the quick timer of " + priority + " with period " + period, x.timer(1, 1),
            quotient(period, priority) + 1);
      }
    }
  }

  /** Router 3 has just handed group 1 over; router 1 is a backup there. */
  private static StandbyPair handedOver(int period, int priority) {
    StandbyPair x = new StandbyPair();
    x.setPeriod(1, period);
    x.setPriority(3, 1, 254);
    x.tick(3 * period);
    x.setPriority(1, 1, priority);
    x.handOver(3, 1);
    return x;
  }

  // 'its timer becomes 1 less; if it is 0 then, it becomes a master, advertises its priority, and
  // its timer is the period'
  private static void backupTimerBecomesZero() {
    for (int period = 1; period <= 10; period++) {
      StandbyPair x = new StandbyPair();
      x.setPeriod(2, period);
      x.setPriority(3, 2, 1);
      int wait = 3 * period + period - 1;
      for (int passed = 1; passed < wait; passed++) {
        x.tick(1);
        Check.due("a backup's timer", x.timer(3, 2), wait - passed);
      }
      Check.due("its timer is 1", x.timer(3, 2), 1);
      Check.due("still a backup", x.state(3, 2), 1);
      Check.due("nothing sent", x.sent(2), 0);
      Check.due("never a master", x.changes(3, 2), 0);
      x.tick(1);
      Check.due("a master", x.state(3, 2), 2);
      Check.due("its timer is the period", x.timer(3, 2), period);
      Check.due("it has advertised", x.sent(2), 1);
      Check.due("once a master", x.changes(3, 2), 1);

      StandbyPair atOnce = new StandbyPair();
      atOnce.setPeriod(2, period);
      atOnce.setPriority(3, 2, 1);
      atOnce.tick(wait);
      Check.due("all ticks at once", Samples.reading(atOnce), Samples.reading(x));
    }
  }

  // 'its timer becomes 1 less; if it is 0 then, it advertises its priority, and its timer is the
  // period'
  private static void masterTimerBecomesZero() {
    for (int period = 1; period <= 10; period++) {
      StandbyPair x = new StandbyPair();
      x.setPeriod(0, period);
      x.setPriority(0, 0, 254);
      x.tick(3 * period);
      for (int round = 1; round <= 3; round++) {
        for (int passed = 1; passed < period; passed++) {
          x.tick(1);
          Check.due("a master's timer", x.timer(0, 0), period - passed);
          Check.due("nothing sent yet", x.sent(0), round);
        }
        x.tick(1);
        Check.due("the period again", x.timer(0, 0), period);
        Check.due("advertised", x.sent(0), round + 1);
      }
    }
  }

  // 'For each router that is a master (a backup) of the group when its turn comes, by rising
  // numbers'
  private static void mastersBeforeBackups() {
    // The timers of both end in one tick: the master is first, also if it has the greater number.
    for (int master = 0; master < 2; master++) {
      int backup = 1 - master;
      StandbyPair x = new StandbyPair();
      x.setPriority(master, 0, 254);
      x.tick(13);
      x.setPeriod(0, 1);
      x.setPriority(backup, 0, 254);
      x.tick(2);
      Check.due("the last tick of both", x.timer(0, 0) * 10 + x.timer(1, 0), 11);
      x.tick(1);
      Check.due("the master stays", x.masters(0), 1 << master);
      Check.due("it has advertised", x.sent(0), 2);
      Check.due("the backup has heard it", x.timer(backup, 0), 2);
      Check.due("before its turn", x.changes(backup, 0), 0);
    }
    // Backups whose timers end in one tick: the lower number is first, and the others hear it.
    StandbyPair y = new StandbyPair();
    for (int router = 0; router < 4; router++) {
      y.setPriority(router, 1, 254);
    }
    y.tick(12);
    Check.due("the lowest number is a master", y.masters(1), 1);
    Check.due("no other was one", y.changes(1, 1) + y.changes(2, 1) + y.changes(3, 1), 0);
    for (int router = 1; router < 4; router++) {
      Check.due("they had their turn with their wait", y.timer(router, 1), 11);
    }
  }

  // 'Timers that run do not change when priorities or periods do.'
  private static void runningTimersOfBackups() {
    StandbyPair x = Samples.pair();
    x.tick(5);
    changeAll(x, 1);
    Check.due("a backup's timer", x.timer(1, 0), 9);
    x.tick(6);
    Check.due("router 0 is a backup up to here", x.state(0, 0), 1);
    x.tick(1);
    Check.due("its wait was 12", x.state(0, 0), 2);
    Check.due("the new period counts from here", x.timer(0, 0), 10);
  }

  private static void runningTimersOfMasters() {
    for (int passed = 0; passed < 4; passed++) {
      StandbyPair x = Samples.runningPair();
      if (passed > 0) {
        x.tick(passed);
      }
      changeAll(x, 0);
      Check.due("a master's timer", x.timer(0, 0), 4 - passed);
      x.setPeriod(0, 1);
      Check.due("period 1: a master's timer", x.timer(0, 0), 4 - passed);
      Check.due("period 1: the backup's timer", x.timer(1, 0), 13 - passed);
      if (passed < 3) {
        x.tick(3 - passed);
      }
      Check.due("nothing sent before it ends", x.sent(0), 1);
      x.tick(1);
      Check.due("sent when it ends", x.sent(0), 2);
      Check.due("period 1 from here", x.timer(0, 0), 1);
    }
  }

  private static void runningTimersAfterFarewell() {
    StandbyPair x = handedOver(10, 1);
    x.tick(2);
    x.setPriority(1, 1, 254);
    x.setPeriod(1, 1);
    x.setPreemption(1, false, 3);
    Check.due("a quick timer", x.timer(1, 1), 8);
    x.setPeriod(1, 7);
    Check.due("a quick timer", x.timer(1, 1), 8);
    x.tick(7);
    Check.due("one tick before", x.state(1, 1), 1);
    x.tick(1);
    Check.due("it ends when it would have", x.state(1, 1), 2);
    Check.due("with the period of now", x.timer(1, 1), 7);
  }

  /** Changes all settings that a timer could follow; each leaves the timers of group 0 alone. */
  private static void changeAll(StandbyPair x, int router) {
    String before = timers(x);
    x.setPriority(router, 0, 3);
    Check.due("after setPriority, timers", timers(x), before);
    x.setPriority(router, 0, 150);
    Check.due("after setPriority, timers", timers(x), before);
    x.track(router, 0, 90);
    x.setLink(router, 0, false);
    Check.due("after setLink, timers", timers(x), before);
    x.track(router, 0, 2);
    Check.due("after track, timers", timers(x), before);
    x.setLink(router, 0, true);
    Check.due("after setLink, timers", timers(x), before);
    x.setPeriod(0, 1);
    Check.due("after setPeriod, timers", timers(x), before);
    x.setPeriod(0, 10);
    Check.due("after setPeriod, timers", timers(x), before);
    x.setPreemption(0, false, 10);
    x.setPreemption(0, true, 0);
    Check.due("after setPreemption, timers", timers(x), before);
    x.join(0, 1, false);
    x.join(0, 1, true);
    Check.due("after join, timers", timers(x), before);
    x.serve(0, 100);
    Check.due("after serve, timers", timers(x), before);
  }

  private static String timers(StandbyPair x) {
    return x.timer(0, 0) + " " + x.timer(1, 0);
  }

  // 'A router that begins to take part in a group is a backup, has heard 0, its timer is its wait,
  // and no bulk repair is asked for.'
  private static void beginsAgainAfterDeath() {
    StandbyPair x = asked();
    x.die(1);
    x.live(1);
    Check.due("a backup", x.state(1, 0), 1);
    Check.due("its wait", x.timer(1, 0), 14);
    beganAnew(x);

    StandbyPair settings = asked();
    settings.die(1);
    settings.setPeriod(0, 10);
    settings.setPriority(1, 0, 250);
    settings.track(1, 1, 60);
    settings.setLink(1, 1, false);
    settings.live(1);
    Check.due("the priority of now", settings.priority(1, 0), 190);
    Check.due("the wait of now", settings.timer(1, 0), 32);

    StandbyPair master = Samples.runningPair();
    master.tick(1);
    master.die(0);
    Check.due("dead, no master", master.masters(0), 0);
    master.live(0);
    Check.due("no master any more", master.masters(0), 0);
    Check.due("a backup", master.state(0, 0), 1);
    Check.due("its wait", master.timer(0, 0), 12);
  }

  private static void beginsAgainAfterPriorityZero() {
    StandbyPair x = asked();
    x.setPriority(1, 0, 0);
    x.setPriority(1, 0, 120);
    Check.due("a backup", x.state(1, 0), 1);
    Check.due("its wait", x.timer(1, 0), 14);
    beganAnew(x);

    StandbyPair master = Samples.runningPair();
    master.tick(1);
    master.setPriority(0, 0, 0);
    Check.due("no master", master.masters(0), 0);
    master.setPriority(0, 0, 1);
    Check.due("a backup", master.state(0, 0), 1);
    Check.due("its wait", master.timer(0, 0), 15);
  }

  /**
   * Router 0, the master of group 0, has priority 110 and the number 20; router 1, with 120 and the
   * number 0, has heard 1 of the delay 2 and asks for a bulk repair.
   */
  private static StandbyPair asked() {
    StandbyPair x = new StandbyPair();
    x.setPriority(0, 0, 110);
    x.tick(14);
    x.setPreemption(0, true, 2);
    x.setPriority(1, 0, 120);
    x.serve(0, 20);
    x.tick(4);
    Check.due("heard once, asked for", x.timer(1, 0) * 100 + x.known(1, 0), 1300);
    return x;
  }

  private static void beganAnew(StandbyPair x) {
    x.tick(4);
    Check.due("asks anew", x.known(1, 0), 0);
    Check.due("nothing repaired", x.repairs(), 0);
    Check.due("has heard 1", x.timer(1, 0), 13);
    x.tick(4);
    Check.due("repaired", x.known(1, 0) * 10 + x.repairs(), 201);
    Check.due("has heard 2", x.timer(1, 0), 13);
    x.tick(4);
    Check.due("heard enough", x.timer(1, 0), 9);
  }

  private static void priorityZeroWhileDead() {
    StandbyPair x = asked();
    x.die(1);
    Check.due("set to 0", x.setPriority(1, 0, 0), 120);
    Check.due("lives again, in no group", x.live(1), 0);
    Check.due("takes no part", x.state(1, 0), 0);
    Check.due("set to 120", x.setPriority(1, 0, 120), 0);
    Check.due("begins", x.state(1, 0), 1);
    beganAnew(x);

    StandbyPair y = new StandbyPair();
    y.die(2);
    y.setPriority(2, 2, 1);
    y.tick(20);
    Check.due("dead all the time: no master", y.masters(2), 0);
    Check.due("lives again, in one group", y.live(2), 1);
    Check.due("begins then", y.timer(2, 2), 15);
  }

  private static void anotherPriorityIsNoBeginning() {
    for (int priority : new int[] {120, 119, 121, 111, 254}) {
      StandbyPair x = asked();
      Check.due("the priority before", x.setPriority(1, 0, priority), 120);
      Check.due("the timer runs on", x.timer(1, 0), 13);
      x.tick(4);
      Check.due("the repair was asked for", x.known(1, 0) * 10 + x.repairs(), 201);
      int whole = x.timer(1, 0);
      Check.due("heard 2: the whole wait", whole >= 11, true);
      x.tick(4);
      Check.due("heard enough", x.timer(1, 0), whole - 4);
    }
    StandbyPair master = Samples.runningPair();
    master.tick(2);
    master.setPriority(0, 0, 1);
    Check.due("a master stays one", master.state(0, 0), 2);
    Check.due("with its timer", master.timer(0, 0), 2);
    Check.due("and says nothing", master.sent(0), 1);
  }

  // 'a number of connections served, which is 0 at first and stays when it does not take part'
  private static void whatStaysOutside() {
    for (int way = 0; way < 2; way++) {
      StandbyPair x = Samples.runningPair();
      x.serve(0, 9);
      x.tick(4);
      leave(x, 0, way);
      leave(x, 1, way);
      x.serve(0, 50);
      x.tick(30);
      Check.due("a master's number", x.known(0, 0), 9);
      Check.due("a backup's number", x.known(1, 0), 9);
      Check.due("how often it was a master", x.changes(0, 0), 1);
      int sent = way == 0 ? 3 : 2;
      Check.due("what was sent", x.sent(0), sent);
      Check.due("gaps", x.gaps(0), 11 + 30);
      comeBack(x, 0, way);
      comeBack(x, 1, way);
      Check.due("back, a master's number", x.known(0, 0), 9);
      Check.due("back, a backup's number", x.known(1, 0), 9);
      Check.due("back, how often it was a master", x.changes(0, 0), 1);
      x.serve(0, 50);
      Check.due("a backup serves nothing", x.known(0, 0), 9);
      x.tick(12);
      Check.due("a master again", x.changes(0, 0), 2);
      x.serve(0, 1);
      Check.due("it grows on", x.known(0, 0), 10);
    }
    // One that takes no part copies nothing, as near as it may be to the sender.
    StandbyPair y = Samples.runningPair();
    y.setPriority(1, 0, 0);
    y.serve(0, 5);
    y.tick(8);
    Check.due("outside nothing is copied", y.known(1, 0), 0);
    Check.due("nor by one that never took part", y.known(2, 0), 0);
    // Links, decrements and who is joined stay too.
    StandbyPair z = new StandbyPair();
    z.track(3, 0, 40);
    z.setLink(3, 0, false);
    z.join(3, 1, false);
    z.die(3);
    z.live(3);
    Check.due("the decrement stays", z.track(3, 0, 0), 40);
    Check.due("the link stays down", z.setLink(3, 0, true), false);
    Check.due("they stay cut", z.join(1, 3, true), false);
    z.track(3, 0, 41);
    z.setLink(3, 0, false);
    z.setLink(3, 0, true);
    Check.due("the decrement stays when the link is up again", z.track(3, 0, 0), 41);
  }

  private static void leave(StandbyPair x, int router, int way) {
    if (way == 0) {
      x.setPriority(router, 0, 0);
    } else {
      x.die(router);
    }
  }

  private static void comeBack(StandbyPair x, int router, int way) {
    if (way == 0) {
      x.setPriority(router, 0, router == 0 ? 200 : 100);
    } else {
      x.live(router);
    }
  }

  // 'A router that does not take part any more because of that, and was a master, advertises 0
  // first.'
  private static void farewellOnlyOfLeavingMasters() {
    StandbyPair x = Samples.runningPair();
    x.setPriority(0, 0, 0);
    Check.due("a master that leaves: sent", x.sent(0), 2);
    Check.due("heard", x.timer(1, 0), 3);
    x.setPriority(0, 0, 0);
    Check.due("once only", x.sent(0), 2);
    x.setPriority(1, 0, 0);
    Check.due("a backup that leaves: sent", x.sent(0), 2);

    StandbyPair dead = Samples.runningPair();
    dead.die(0);
    dead.setPriority(0, 0, 0);
    Check.due("a dead one did not take part: sent", dead.sent(0), 1);
    Check.due("not heard", dead.timer(1, 0), 13);

    StandbyPair lowered = Samples.runningPair();
    lowered.track(0, 0, 100);
    lowered.track(0, 1, 100);
    lowered.setLink(0, 0, false);
    lowered.setLink(0, 1, false);
    Check.due("lowered to 1 by links it still takes part", lowered.state(0, 0), 2);
    Check.due("and says nothing", lowered.sent(0), 1);

    StandbyPair other = Samples.runningPair();
    other.setPriority(0, 1, 90);
    other.setPriority(0, 1, 0);
    Check.due("leaving another group: sent", other.sent(0) * 10 + other.sent(1), 10);
    Check.due("stays a master in the first", other.masters(0), 1);

    // Other masters hear a 0 and stay; the sender's number is copied by the backups.
    StandbyPair split = Samples.splitPair();
    split.setPriority(3, 0, 1);
    split.join(0, 1, true);
    split.serve(0, 10);
    split.setPriority(1, 0, 0);
    Check.due("another master stays", split.masters(0), 1);
    Check.due("with its timer", split.timer(0, 0), 3);
    Check.due("a backup is quick", split.timer(3, 0), 4);
    Check.due("and copies", split.known(3, 0), 10);
  }

  // 'it takes part in no group, and advertises nothing'
  private static void diesWithoutFarewell() {
    StandbyPair x = Samples.runningPair();
    x.setPriority(0, 1, 7);
    x.serve(0, 5);
    Check.due("die", x.die(0), 1);
    Check.due("nothing sent", x.sent(0) * 10 + x.sent(1), 10);
    Check.due("no timer changed", x.timer(1, 0), 13);
    Check.due("nothing copied", x.known(1, 0), 0);
    Check.due("no part in group 0", x.state(0, 0), 0);
    Check.due("no part in group 1", x.state(0, 1), 0);
    x.tick(12);
    Check.due("nothing sent later", x.sent(0), 1);
    x.tick(1);
    Check.due("until the backup takes over", x.sent(0), 2);
  }

  // 'Returns in how many groups it was a master.'
  private static void mastersThatDie() {
    for (int router = 0; router < 4; router++) {
      for (int count = 0; count <= 3; count++) {
        StandbyPair x = new StandbyPair();
        for (int group = 0; group < count; group++) {
          x.setPriority(router, group, 254);
        }
        x.tick(12);
        for (int group = count; group < 3; group++) {
          x.setPriority(router, group, 254);
        }
        Check.due("a master in " + count + " groups", x.die(router), count);
        Check.due("none any more", x.masters(0) + x.masters(1) + x.masters(2), 0);
      }
    }
  }

  // 'it begins to take part in all groups for which it has a base priority greater than 0'
  private static void groupsThatLiveAgain() {
    for (int set = 0; set < 8; set++) {
      StandbyPair x = new StandbyPair();
      int count = 0;
      for (int group = 0; group < 3; group++) {
        int takes = set >> group & 1;
        x.setPriority(1, group, takes);
        count += takes;
      }
      x.die(1);
      Check.due("live: groups", x.live(1), count);
      for (int group = 0; group < 3; group++) {
        Check.due("live: state", x.state(1, group), set >> group & 1);
      }
    }
  }

  // 'If there is no master of the group then, the tick is a gap of the group, also if no router
  // takes part in it.'
  private static void gapsWithoutMasters() {
    StandbyPair x = new StandbyPair();
    x.tick(1);
    Check.due("nobody takes part", x.gaps(0) * 100 + x.gaps(1) * 10 + x.gaps(2), 111);
    x.tick(50);
    Check.due("nobody, 50 ticks", x.gaps(1), 51);
    x.setPriority(2, 1, 254);
    x.tick(11);
    Check.due("only a backup", x.gaps(1), 62);
    x.tick(1);
    Check.due("it is a master then", x.gaps(1), 62);
    x.tick(50);
    Check.due("and stays", x.gaps(1), 62);
    Check.due("the others have theirs", x.gaps(0) * 1000 + x.gaps(2), 113113);
    x.die(2);
    x.tick(2);
    Check.due("dead", x.gaps(1), 64);
    x.live(2);
    x.tick(1);
    Check.due("alive, a backup", x.gaps(1), 65);
    x.setPriority(2, 1, 0);
    x.tick(1);
    Check.due("without a base priority", x.gaps(1), 66);
  }

  private static void noGapWithAMaster() {
    StandbyPair over = Samples.runningPair();
    over.setPriority(2, 0, 254);
    over.handOver(0, 0);
    Check.due("only ticks are gaps", over.gaps(0), 11);
    over.tick(1);
    Check.due("taken over in the very tick", over.gaps(0), 11);

    StandbyPair split = Samples.splitPair();
    int before = split.gaps(0);
    split.join(0, 1, true);
    split.tick(3);
    Check.due("a split mind healed", split.masters(0), 1);
    Check.due("is no gap", split.gaps(0), before);
    split.setPriority(2, 0, 250);
    split.tick(20);
    Check.due("taken over by a better one", split.masters(0), 4);
    Check.due("is no gap", split.gaps(0), before);
  }

  // 'Returns the sum of 2 to the power of the number of each.'
  private static void mastersOfAGroup() {
    for (int set = 0; set < 16; set++) {
      StandbyPair x = new StandbyPair();
      for (int one = 0; one < 4; one++) {
        for (int other = 0; other < one; other++) {
          x.join(one, other, false);
        }
        if ((set >> one & 1) == 1) {
          x.setPriority(one, 0, 254);
        }
      }
      x.tick(12);
      for (int router = 0; router < 4; router++) {
        if ((set >> router & 1) == 0) {
          x.setPriority(router, 0, 254);
        }
      }
      Check.due("masters", x.masters(0), set);
      Check.due("serve", x.serve(0, 1), Integer.bitCount(set));
      for (int router = 0; router < 4; router++) {
        Check.due("known", x.known(router, 0), set >> router & 1);
      }
    }
  }

  // 'no two masters of a group are joined'
  private static void settledPairs() {
    for (int pairs = 0; pairs < 64; pairs++) {
      StandbyPair x = new StandbyPair();
      for (int one = 0; one < 4; one++) {
        x.setPriority(one, 1, 200);
        for (int other = 0; other < one; other++) {
          x.join(one, other, false);
        }
      }
      x.setPriority(0, 2, 200);
      x.tick(12);
      int pair = 0;
      for (int one = 0; one < 4; one++) {
        for (int other = 0; other < one; other++) {
          x.join(one, other, (pairs >> pair & 1) == 1);
          pair++;
        }
      }
      Check.due("settled: four masters, joined by " + pairs, x.isSettled(1), pairs == 0);
      Check.due("settled: one master alone", x.isSettled(2), true);
    }
    StandbyPair y = Samples.runningPair();
    Check.due("settled: a master joined with a backup", y.isSettled(0), true);
    y.join(0, 1, false);
    Check.due("settled: a master cut from a backup", y.isSettled(0), true);
  }

  // 'some router is a master if one takes part'
  private static void settledWithoutMaster() {
    for (int router = 0; router < 4; router++) {
      for (int group = 0; group < 3; group++) {
        StandbyPair x = new StandbyPair();
        Check.due("settled: nobody takes part", x.isSettled(group), true);
        x.setPriority(router, group, 1);
        Check.due("settled: a backup alone", x.isSettled(group), false);
        x.tick(14);
        Check.due("settled: a tick before", x.isSettled(group), false);
        x.tick(1);
        Check.due("settled: a master", x.isSettled(group), true);
        x.handOver(router, group);
        Check.due("settled: handed over", x.isSettled(group), false);
        x.die(router);
        Check.due("settled: dead", x.isSettled(group), true);
        x.live(router);
        Check.due("settled: alive", x.isSettled(group), false);
        x.setPriority(router, group, 0);
        Check.due("settled: no base priority", x.isSettled(group), true);
      }
    }
  }

  // 'Returns how often a router has become a master of a group.'
  private static void becomingMasterCounts() {
    // Both end their waits at 14; router 0 is a master for less than a tick.
    StandbyPair x = new StandbyPair();
    x.setPriority(0, 2, 100);
    x.setPriority(3, 2, 101);
    x.tick(14);
    Check.due("a backup", x.state(0, 2), 1);
    Check.due("that was a master within the tick", x.changes(0, 2), 1);
    Check.due("and its advertisement was sent", x.sent(2), 2);
    Check.due("the other", x.changes(3, 2), 1);
    x.handOver(3, 2);
    Check.due("handing over counts for nobody", x.changes(3, 2) + x.changes(0, 2), 2);
    x.setPriority(3, 2, 0);
    x.setPriority(3, 2, 9);
    Check.due("nor leaves it when it comes back", x.changes(3, 2), 1);
    x.die(0);
    x.live(0);
    Check.due("nor when it was dead", x.changes(0, 2), 1);
  }

  // 'An object is used for at most 512 calls after it has been made'
  private static void lastCalls() {
    StandbyPair x = new StandbyPair();
    x.setPriority(3, 2, 254);
    x.tick(12);
    for (int n = 0; n < 255; n++) {
      Check.due("serve", x.serve(2, 100), 1);
      Check.due("tick", x.tick(50), 12 + 50 * (n + 1));
    }
    // The loop has taken all but two of the calls before it, so another object tells the rest.
    StandbyPair y = new StandbyPair();
    y.setPriority(3, 2, 254);
    y.setPeriod(2, 1);
    y.setPeriod(1, 1);
    y.tick(12);
    for (int n = 0; n < 500; n++) {
      y.serve(2, 100);
    }
    y.tick(50);
    Check.due("50000 connections", y.known(3, 2), 50000);
    Check.due("gaps of a group that nobody serves", y.gaps(1), 62);

    StandbyPair z = new StandbyPair();
    z.setPeriod(0, 1);
    z.setPriority(0, 0, 254);
    for (int n = 0; n < 505; n++) {
      z.tick(50);
    }
    Check.due("advertisements of 25250 ticks with period 1", z.sent(0), 25248);
    Check.due("gaps of the others", z.gaps(2), 25250);
    Check.due("gaps", z.gaps(0), 2);
  }
}
