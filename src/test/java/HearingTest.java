/**
 * The sentences of 'Terms' on what follows when a router receives an advertisement: who hears it,
 * equal and greater numbers, the delay, the number 0, and copying. Each test stands under the words
 * that it looks at.
 */
public final class HearingTest {

  public static void main(String[] args) {
    joinedAndTakingPart();
    senderHearsNothing();
    equalMasters();
    mastersOneApart();
    loweredMastersMeet();
    loweredBackupsHear();
    masterThatStays();
    masterThatGoes();
    masterThatGoesHasHeardNothing();
    backupAgainstTheNumber();
    asMuchAsTheDelay();
    delayChangesOnTheWay();
    otherwiseHeardNothing();
    nothingFollowsCopiesNothing();
    preemptionOfEachGroup();
    zeroIsNotCounted();
    zeroToMasters();
    handOverHeardNothing();
    handOverAlone();
    greaterByAtMostTen();
    askedForThenAnother();
    zeroCopies();
    demotedCopies();
    repairsOfEachRouter();
    Check.end();
  }

  // 'each other router that takes part in the group and is joined with it receives that at once'
  private static void joinedAndTakingPart() {
    for (int sender = 0; sender < 4; sender++) {
      for (int router = 0; router < 4; router++) {
        if (router != sender) {
          hearsIfJoined(sender, router);
          hearsIfTakingPart(sender, router);
        }
      }
    }
  }

  private static void hearsIfJoined(int sender, int router) {
    StandbyPair x = masterOfTwo(sender);
    x.setPriority(router, 0, 100);
    x.setPriority(router, 1, 100);
    x.serve(0, 5);
    x.handOver(sender, 0);
    Check.due("joined: hears", x.timer(router, 0), 3);
    Check.due("joined: copies", x.known(router, 0), 5);
    Check.due("another group: does not hear", x.timer(router, 1), 14);

    StandbyPair cut = masterOfTwo(sender);
    cut.setPriority(router, 0, 100);
    cut.join(router, sender, false);
    cut.serve(0, 5);
    cut.handOver(sender, 0);
    Check.due("cut: does not hear", cut.timer(router, 0), 14);
    Check.due("cut: copies nothing", cut.known(router, 0), 0);

    StandbyPair others = masterOfTwo(sender);
    others.setPriority(router, 0, 100);
    for (int other = 0; other < 4; other++) {
      if (other != router && other != sender) {
        others.join(router, other, false);
        others.join(sender, other, false);
      }
    }
    others.handOver(sender, 0);
    Check.due("cut from others alone: hears", others.timer(router, 0), 3);
  }

  private static void hearsIfTakingPart(int sender, int router) {
    StandbyPair x = masterOfTwo(sender);
    x.setPriority(router, 1, 100);
    x.serve(0, 5);
    x.handOver(sender, 0);
    Check.due("no part: copies nothing", x.known(router, 0), 0);
    Check.due("no part: stays so", x.state(router, 0), 0);
    x.setPriority(router, 0, 100);
    Check.due("part too late: does not hear", x.timer(router, 0), 14);

    StandbyPair dead = masterOfTwo(sender);
    dead.setPriority(router, 0, 100);
    dead.serve(0, 5);
    dead.die(router);
    dead.tick(8);
    Check.due("dead: copies nothing", dead.known(router, 0), 0);
    Check.due("dead: stays so", dead.state(router, 0), 0);
  }

  /** The router is the master of the groups 0 and 1 at time 12. */
  private static StandbyPair masterOfTwo(int router) {
    StandbyPair x = new StandbyPair();
    x.setPriority(router, 0, 254);
    x.setPriority(router, 1, 254);
    x.tick(12);
    return x;
  }

  // 'each other router'
  private static void senderHearsNothing() {
    StandbyPair x = Samples.runningPair();
    x.handOver(0, 0);
    Check.due("its timer is its wait, not the quick one", x.timer(0, 0), 12);
  }

  // 'if the number is greater than its own priority, or the same and the sender has the greater
  // number, it becomes a backup'
  private static void equalMasters() {
    for (int priority : new int[] {1, 2, 128, 254}) {
      for (int one = 0; one < 4; one++) {
        for (int other = one + 1; other < 4; other++) {
          StandbyPair x = twoMasters(one, priority, 0, other, priority, 0);
          x.setPriority(one, 1, priority);
          int wait = x.timer(one, 1);
          x.tick(3);
          Check.due("equal: both until they advertise", x.masters(0), (1 << one) + (1 << other));
          x.tick(1);
          Check.due("equal: the greater number stays", x.masters(0), 1 << other);
          Check.due("equal: both advertised", x.sent(0), 4);
          Check.due("equal: the other is a backup", x.state(one, 0), 1);
          Check.due("equal: with its wait, less its turn", x.timer(one, 0), wait - 1);
        }
      }
    }
  }

  private static void mastersOneApart() {
    for (int priority : new int[] {1, 127, 253}) {
      for (int one = 0; one < 4; one++) {
        for (int other = one + 1; other < 4; other++) {
          StandbyPair low = twoMasters(one, priority + 1, 0, other, priority, 0);
          low.tick(4);
          Check.due("the lesser number has one more", low.masters(0), 1 << one);
          Check.due("it alone advertised, the other had no turn", low.sent(0), 3);
          StandbyPair high = twoMasters(one, priority, 0, other, priority + 1, 0);
          high.tick(4);
          Check.due("the greater number has one more", high.masters(0), 1 << other);
          Check.due("both advertised", high.sent(0), 4);
        }
      }
    }
  }

  /**
   * Two masters of group 0 that have just been joined, with the priorities and the numbers of
   * connections given; both are to advertise in 4 ticks.
   */
  private static StandbyPair twoMasters(
      int one, int onePriority, int oneNumber, int other, int otherPriority, int otherNumber) {
    StandbyPair x = new StandbyPair();
    x.join(one, other, false);
    number(x, one, oneNumber);
    number(x, other, otherNumber);
    x.setPriority(one, 0, 254);
    x.setPriority(other, 0, 254);
    x.tick(12);
    x.setPriority(one, 0, onePriority);
    x.setPriority(other, 0, otherPriority);
    x.join(one, other, true);
    return x;
  }

  /** Gives a router a number of connections in group 0, in which nobody takes part. */
  private static void number(StandbyPair x, int router, int number) {
    if (number > 0) {
      x.setPriority(router, 0, 254);
      x.tick(12);
      x.serve(0, number);
      x.setPriority(router, 0, 0);
    }
  }

  // The same, with priorities that links have lowered, on both sides.
  private static void loweredMastersMeet() {
    loweredMasters("150 less 50 against 100", 1, 50, 150, 100, 2);
    loweredMasters("150 less 49 against 100", 1, 49, 150, 100, 1);
    loweredMasters("100 against 150 less 50", 2, 50, 100, 150, 2);
    loweredMasters("100 against 150 less 51", 2, 51, 100, 150, 1);
  }

  private static void loweredMasters(
      String what, int lowered, int decrement, int first, int second, int stays) {
    StandbyPair x = twoMasters(1, first, 0, 2, second, 0);
    x.track(lowered, 1, decrement);
    x.setLink(lowered, 1, false);
    x.tick(4);
    Check.due(what + ", routers 1 and 2", x.masters(0), 1 << stays);
  }

  private static void loweredBackupsHear() {
    // Router 1 becomes a master with 200 less 60; router 2 has a timer of 3 then.
    for (int own : new int[] {141, 140}) {
      StandbyPair x = new StandbyPair();
      x.track(1, 0, 60);
      x.setLink(1, 0, false);
      x.setPriority(1, 0, 200);
      x.track(2, 1, 20);
      x.setLink(2, 1, false);
      x.tick(3);
      x.setPriority(2, 0, own + 20);
      Check.due("the wait of 140 or 141", x.timer(2, 0), 13);
      x.tick(10);
      Check.due("router 1 is a master", x.masters(0), 2);
      Check.due(own + " against a new master's 140", x.timer(2, 0), own == 141 ? 3 : 12);
      x.tick(own == 141 ? 2 : 4);
      Check.due("router 1 is still the master", x.masters(0), 2);
      x.tick(1);
      Check.due("a better one takes over", x.masters(0), own == 141 ? 4 : 2);
    }
    // The same when the master has been one for long.
    for (int own : new int[] {141, 140}) {
      StandbyPair x = Samples.runningPair();
      x.track(0, 0, 60);
      x.setLink(0, 0, false);
      x.setPriority(2, 0, own);
      x.tick(4);
      Check.due(own + " against a master's 140", x.timer(2, 0), own == 141 ? 9 : 12);
    }
  }

  /**
   * Router 2, with 10 connections, and router 3, with none, are masters of group 0 and have just
   * been joined; router 2 advertises in 3 ticks, router 3 in 4.
   */
  private static StandbyPair mastersInTurn(int priority2, int priority3) {
    StandbyPair x = new StandbyPair();
    x.join(2, 3, false);
    number(x, 2, 10);
    x.setPriority(2, 0, 254);
    x.tick(1);
    x.setPriority(3, 0, 254);
    x.tick(12);
    x.setPriority(2, 0, priority2);
    x.setPriority(3, 0, priority3);
    x.join(2, 3, true);
    return x;
  }

  // 'Otherwise nothing follows.'
  private static void masterThatStays() {
    for (int number : new int[] {100, 99, 1}) {
      StandbyPair x = mastersInTurn(number, 100);
      x.tick(3);
      Check.due("a master stays", x.masters(0), 12);
      Check.due("its timer runs on", x.timer(3, 0), 1);
      Check.due("it copies nothing", x.known(3, 0), 0);
      x.tick(1);
      Check.due("its turn", x.masters(0), 8);
      Check.due("the one that goes has more, and keeps it", x.known(2, 0), 10);
    }
  }

  // 'it becomes a backup, has heard 0, its timer is its wait, and it copies'
  private static void masterThatGoes() {
    StandbyPair x = mastersInTurn(101, 100);
    x.setPeriod(0, 7);
    x.tick(2);
    Check.due("both up to here", x.masters(0), 12);
    x.tick(1);
    Check.due("one stays", x.masters(0), 4);
    Check.due("the other is a backup", x.state(3, 0), 1);
    Check.due("with the wait of now, less its turn", x.timer(3, 0), 24);
    Check.due("it copies", x.known(3, 0), 10);
    Check.due("and was a master once", x.changes(3, 0), 1);
  }

  private static void masterThatGoesHasHeardNothing() {
    // Router 1 heard 1 before it became a master; router 2 makes it a backup at 7.
    StandbyPair x = new StandbyPair();
    x.setPeriod(0, 1);
    x.setPreemption(0, true, 1);
    x.join(0, 2, false);
    x.join(1, 2, false);
    x.setPriority(0, 0, 100);
    x.setPriority(2, 0, 200);
    x.tick(3);
    x.setPriority(1, 0, 150);
    x.tick(3);
    Check.due("routers 1 and 2 are masters", x.masters(0), 6);
    x.join(1, 2, true);
    x.tick(1);
    Check.due("router 1 has gone", x.state(1, 0), 1);
    Check.due("with its wait", x.timer(1, 0), 2);
    x.setPriority(2, 0, 120);
    x.tick(1);
    Check.due("it hears 1: the whole wait", x.timer(1, 0), 2);
    x.tick(1);
    Check.due("then no more", x.timer(1, 0), 1);
  }

  // 'if pre-emption is on in the group, and its priority is greater than the number'
  private static void backupAgainstTheNumber() {
    for (int number : new int[] {1, 64, 100, 192, 253, 254}) {
      for (int own = Math.max(number - 1, 1); own <= Math.min(number + 1, 254); own++) {
        for (int delay = 0; delay <= 1; delay++) {
          String what = own + " against " + number + ", delay " + delay;
          StandbyPair x = masterAndBackup(number, own);
          x.setPreemption(0, true, delay);
          int wait = x.timer(1, 0);
          x.tick(4);
          int first = own > number && delay == 0 ? wait - 4 : wait - 1;
          Check.due(what + ", first", x.timer(1, 0), first);
          x.tick(4);
          Check.due(what + ", second", x.timer(1, 0), own > number ? first - 4 : wait - 1);
        }
      }
    }
  }

  /** Router 0 is the master of group 0 at time 12, and router 1 has just become a backup. */
  private static StandbyPair masterAndBackup(int priority, int own) {
    StandbyPair x = new StandbyPair();
    x.setPriority(0, 0, 254);
    x.tick(12);
    x.setPriority(0, 0, priority);
    x.setPriority(1, 0, own);
    return x;
  }

  // 'if it has heard as much as the delay of the group or more, nothing follows; otherwise it has
  // heard 1 more, its timer is its wait, and it copies'
  private static void asMuchAsTheDelay() {
    for (int delay = 0; delay <= 10; delay++) {
      StandbyPair x = masterAndBackup(100, 101);
      x.setPreemption(0, true, delay);
      for (int n = 1; n <= delay; n++) {
        x.serve(0, 2);
        x.tick(4);
        Check.due("heard " + n + " of " + delay, x.timer(1, 0), 13);
        Check.due("copied at " + n + " of " + delay, x.known(1, 0), 2 * n);
      }
      x.serve(0, 2);
      x.tick(4);
      int left = delay == 0 ? 10 : 9;
      Check.due("heard enough, delay " + delay, x.timer(1, 0), left);
      Check.due("copied no more, delay " + delay, x.known(1, 0), 2 * delay);
      x.tick(left - 1);
      Check.due("one tick before, delay " + delay, x.masters(0), 1);
      x.tick(1);
      Check.due("pre-empted, delay " + delay, x.masters(0), 2);
    }
  }

  private static void delayChangesOnTheWay() {
    for (int delay = 0; delay <= 5; delay++) {
      StandbyPair x = heardThree();
      x.setPreemption(0, true, delay);
      for (int heard = 3; heard < delay; heard++) {
        x.tick(4);
        Check.due("heard 3, then delay " + delay + ": one more", x.timer(1, 0), 13);
      }
      x.tick(4);
      Check.due("heard 3, then delay " + delay + ": enough", x.timer(1, 0), 9);
    }
    StandbyPair raised = heardThree();
    raised.setPreemption(0, true, 3);
    raised.tick(4);
    Check.due("as much as 3", raised.timer(1, 0), 9);
    raised.setPreemption(0, true, 4);
    raised.tick(4);
    Check.due("not as much as 4", raised.timer(1, 0), 13);
    raised.tick(4);
    Check.due("as much as 4", raised.timer(1, 0), 9);

    StandbyPair unheard = heardThree();
    unheard.setPreemption(0, false, 0);
    unheard.setPreemption(0, true, 4);
    unheard.tick(4);
    Check.due("off, but nothing heard then", unheard.timer(1, 0), 13);
    unheard.tick(4);
    Check.due("three stayed heard", unheard.timer(1, 0), 9);
  }

  /** Router 1, with 101 against 100, has heard 3 of the delay 10; its wait is 14. */
  private static StandbyPair heardThree() {
    StandbyPair x = masterAndBackup(100, 101);
    x.setPreemption(0, true, 10);
    x.tick(12);
    return x;
  }

  // 'Otherwise it has heard 0, its timer is its wait, and it copies.'
  private static void otherwiseHeardNothing() {
    for (int way = 0; way < 4; way++) {
      StandbyPair x = heardThree();
      x.setPreemption(0, true, 3);
      if (way == 0) {
        x.setPreemption(0, false, 3);
      } else if (way == 1) {
        x.setPriority(0, 0, 101);
      } else if (way == 2) {
        x.setPriority(1, 0, 99);
      } else {
        x.track(1, 1, 1);
        x.setLink(1, 1, false);
      }
      x.serve(0, 4);
      x.tick(4);
      Check.due("way " + way + ": the whole wait", x.timer(1, 0), 13);
      Check.due("way " + way + ": copied", x.known(1, 0), 4);
      x.setPreemption(0, true, 3);
      x.setPriority(0, 0, 100);
      x.setPriority(1, 0, 101);
      x.setLink(1, 1, true);
      for (int heard = 1; heard <= 3; heard++) {
        x.tick(4);
        Check.due("way " + way + ": from 0 on, " + heard, x.timer(1, 0), 13);
      }
      x.tick(4);
      Check.due("way " + way + ": then enough", x.timer(1, 0), 9);
    }
  }

  // 'nothing follows': no copy, and no bulk repair is asked for
  private static void nothingFollowsCopiesNothing() {
    StandbyPair x = masterAndBackup(100, 101);
    x.serve(0, 5);
    x.tick(4);
    Check.due("no small step", x.known(1, 0), 0);
    x.serve(0, 20);
    x.tick(4);
    Check.due("no great one", x.known(1, 0), 0);
    x.setPriority(1, 0, 100);
    x.tick(4);
    Check.due("none was asked for", x.known(1, 0) + x.repairs(), 0);
    x.tick(4);
    Check.due("one is now", x.known(1, 0) * 10 + x.repairs(), 251);

    // One that was asked for before is neither done nor forgotten.
    StandbyPair asked = masterAndBackup(100, 100);
    asked.serve(0, 11);
    asked.tick(4);
    asked.setPriority(1, 0, 101);
    asked.tick(4);
    Check.due("not done", asked.known(1, 0) + asked.repairs(), 0);
    asked.setPriority(1, 0, 100);
    asked.tick(4);
    Check.due("not forgotten", asked.known(1, 0) * 10 + asked.repairs(), 111);
  }

  // 'Pre-emption is on in all groups at first, with the delay 0.'
  private static void preemptionOfEachGroup() {
    for (int changed = -1; changed < 3; changed++) {
      for (int way = 0; way < 2; way++) {
        StandbyPair x = new StandbyPair();
        for (int group = 0; group < 3; group++) {
          x.setPriority(3, group, 254);
        }
        x.tick(12);
        for (int group = 0; group < 3; group++) {
          x.setPriority(3, group, 100);
          x.setPriority(1, group, 101);
        }
        if (changed >= 0) {
          x.setPreemption(changed, way == 0, way == 0 ? 1 : 0);
        }
        x.tick(4);
        for (int group = 0; group < 3; group++) {
          Check.due("heard once", x.timer(1, group), group == changed ? 13 : 10);
        }
        x.tick(4);
        for (int group = 0; group < 3; group++) {
          int due = group != changed ? 6 : way == 0 ? 9 : 13;
          Check.due("heard twice", x.timer(1, group), due);
        }
      }
    }
  }

  // 'if the number is 0, its timer becomes the quotient ..; it copies': what it has heard stays
  private static void zeroIsNotCounted() {
    StandbyPair x = new StandbyPair();
    x.setPeriod(0, 10);
    x.setPreemption(0, true, 2);
    x.join(0, 1, false);
    x.join(1, 2, false);
    x.setPriority(1, 0, 254);
    x.tick(7);
    x.setPriority(0, 0, 254);
    x.tick(33);
    x.setPriority(0, 0, 50);
    x.setPriority(1, 0, 60);
    Check.due("two masters", x.masters(0), 3);
    x.setPriority(2, 0, 100);
    x.tick(7);
    Check.due("heard 1 of 2, from router 0", x.timer(2, 0), 35);
    x.handOver(0, 0);
    Check.due("the quick timer", x.timer(2, 0), 7);
    x.join(1, 2, true);
    x.tick(3);
    Check.due("heard 2 of 2, from router 1", x.timer(2, 0), 35);
    x.tick(10);
    Check.due("heard enough", x.timer(2, 0), 25);
  }

  // A master that receives 0: 'Otherwise nothing follows.'
  private static void zeroToMasters() {
    StandbyPair x = mastersInTurn(254, 1);
    x.handOver(2, 0);
    Check.due("another master stays", x.masters(0), 8);
    Check.due("with its timer", x.timer(3, 0), 4);
    Check.due("and copies nothing", x.known(3, 0), 0);

    StandbyPair y = mastersInTurn(254, 1);
    y.setPriority(2, 0, 0);
    Check.due("another master stays", y.masters(0), 8);
    Check.due("with its timer", y.timer(3, 0), 4);
    Check.due("and copies nothing", y.known(3, 0), 0);
  }

  // 'a master becomes a backup, has heard 0, its timer is its wait, and it advertises 0'
  private static void handOverHeardNothing() {
    // Router 1 heard 2 of 2 before it became a master at 7.
    StandbyPair x = new StandbyPair();
    x.setPeriod(0, 1);
    x.setPreemption(0, true, 2);
    x.setPriority(0, 0, 100);
    x.tick(3);
    x.setPriority(1, 0, 150);
    x.tick(4);
    Check.due("router 1 has taken over", x.masters(0), 2);
    x.handOver(1, 0);
    Check.due("its wait", x.timer(1, 0), 3);
    Check.due("the quick timer", x.timer(0, 0), 1);
    x.tick(1);
    Check.due("router 0 is a master", x.masters(0), 1);
    Check.due("heard 1", x.timer(1, 0), 2);
    x.tick(1);
    Check.due("heard 2", x.timer(1, 0), 2);
    x.tick(1);
    Check.due("heard enough", x.timer(1, 0), 1);
  }

  private static void handOverAlone() {
    StandbyPair x = Samples.runningPair();
    x.setPriority(1, 0, 0);
    x.setPeriod(0, 10);
    x.track(0, 0, 72);
    x.setLink(0, 0, false);
    x.handOver(0, 0);
    Check.due("the wait of now", x.timer(0, 0), 35);
    Check.due("sent to nobody, but sent", x.sent(0), 2);
    x.tick(34);
    Check.due("no master until it ends", x.masters(0), 0);
    Check.due("gaps", x.gaps(0), 11 + 34);
    x.tick(1);
    Check.due("a master again", x.masters(0), 1);
    Check.due("no gap", x.gaps(0), 11 + 34);
    Check.due("twice a master", x.changes(0, 0), 2);
  }

  // 'if the number of connections of the sender is less than its own or the same, nothing follows.
  // If it is greater by at most 10 .., its own becomes that of the sender .. Otherwise a bulk
  // repair is asked for.'
  private static void greaterByAtMostTen() {
    // the sender's, the router's, then what it knows and the repairs after one and two
    int[][] rows = {
      {0, 0, 0, 0, 0, 0}, {5, 5, 5, 0, 5, 0}, {4, 5, 5, 0, 5, 0}, {0, 100, 100, 0, 100, 0},
      {1, 0, 1, 0, 1, 0}, {6, 5, 6, 0, 6, 0}, {9, 0, 9, 0, 9, 0}, {10, 0, 10, 0, 10, 0},
      {11, 0, 0, 0, 11, 1}, {12, 0, 0, 0, 12, 1}, {100, 0, 0, 0, 100, 1},
      {15, 5, 15, 0, 15, 0}, {16, 5, 5, 0, 16, 1}, {100, 90, 100, 0, 100, 0},
      {100, 89, 89, 0, 100, 1},
    };
    for (int[] row : rows) {
      StandbyPair x = senderAndCopier(row[0], row[1]);
      String what = row[0] + " to " + row[1] + ": ";
      Check.due(what + "at first", x.known(1, 0), row[1]);
      x.tick(4);
      Check.due(what + "known", x.known(1, 0), row[2]);
      Check.due(what + "repairs", x.repairs(), row[3]);
      x.tick(4);
      Check.due(what + "known after two", x.known(1, 0), row[4]);
      Check.due(what + "repairs after two", x.repairs(), row[5]);
      x.tick(4);
      Check.due(what + "known after three", x.known(1, 0), row[4]);
      Check.due(what + "repairs after three", x.repairs(), row[5]);
      Check.due(what + "the sender's stays", x.known(0, 0), row[0]);
    }
  }

  /** Router 0 is the master of group 0 and advertises in 4 ticks; router 1 is a worse backup. */
  private static StandbyPair senderAndCopier(int sender, int own) {
    StandbyPair x = new StandbyPair();
    number(x, 1, own);
    number(x, 0, sender);
    x.setPriority(0, 0, 254);
    x.tick(12);
    x.setPriority(1, 0, 100);
    return x;
  }

  // 'or a bulk repair is asked for, its own becomes that of the sender, and no bulk repair is
  // asked for any more; one that was is counted'
  private static void askedForThenAnother() {
    // the numbers of router 0, heard first, of router 1, heard next, and of the router that hears
    // them, then what it knows and the repairs after one round and after two
    int[][] rows = {
      {20, 1, 0, 1, 1, 1, 1},
      {20, 10, 0, 10, 1, 20, 1},
      {20, 11, 0, 11, 1, 20, 1},
      {30, 100, 0, 100, 1, 100, 1},
      {20, 5, 5, 5, 0, 20, 1},
      {20, 4, 5, 5, 0, 20, 1},
      {50, 0, 30, 30, 0, 50, 1},
      {5, 15, 0, 15, 0, 15, 0},
      {5, 16, 0, 5, 0, 16, 1},
      {0, 31, 30, 31, 0, 31, 0},
      {19, 31, 30, 31, 0, 31, 0},
      {29, 31, 30, 31, 0, 31, 0},
      {30, 31, 30, 31, 0, 31, 0},
    };
    for (int[] row : rows) {
      StandbyPair x = new StandbyPair();
      number(x, 0, row[0]);
      number(x, 1, row[1]);
      number(x, 2, row[2]);
      x.join(0, 1, false);
      x.setPriority(0, 0, 254);
      x.setPriority(1, 0, 254);
      x.tick(12);
      x.setPriority(2, 0, 1);
      String what = row[0] + ", then " + row[1] + " to " + row[2] + ": ";
      x.tick(4);
      Check.due(what + "known", x.known(2, 0), row[3]);
      Check.due(what + "repairs", x.repairs(), row[4]);
      x.tick(4);
      Check.due(what + "known after two rounds", x.known(2, 0), row[5]);
      Check.due(what + "repairs after two rounds", x.repairs(), row[6]);
    }
  }

  // 'if the number is 0 ..; it copies'
  private static void zeroCopies() {
    for (int way = 0; way < 2; way++) {
      int[][] rows = {{10, 0, 10}, {11, 0, 0}, {5, 5, 5}, {4, 5, 5}, {40, 30, 40}, {41, 30, 30}};
      for (int[] row : rows) {
        StandbyPair x = senderAndCopier(row[0], row[1]);
        farewell(x, way);
        Check.due("0, " + row[0] + " to " + row[1], x.known(1, 0), row[2]);
        Check.due("no repair yet", x.repairs(), 0);
      }
      StandbyPair asked = senderAndCopier(20, 0);
      asked.tick(4);
      farewell(asked, way);
      Check.due("0 does what was asked for", asked.known(1, 0) * 10 + asked.repairs(), 201);

      StandbyPair asks = senderAndCopier(20, 0);
      farewell(asks, way);
      if (way == 1) {
        asks.setPriority(0, 0, 254);
      }
      // Router 1 has not forgotten it when router 0, a master again, comes to be heard.
      asks.tick(20);
      Check.due("router 0 is a master again", asks.masters(0), 1);
      Check.due("0 asked", asks.known(1, 0) * 10 + asks.repairs(), 201);
    }
  }

  private static void farewell(StandbyPair x, int way) {
    if (way == 0) {
      x.handOver(0, 0);
    } else {
      x.setPriority(0, 0, 0);
    }
  }

  // A master that becomes a backup 'copies', by the same steps.
  private static void demotedCopies() {
    // the number of the one that stays, of the one that goes, what that knows after one and two
    int[][] rows = {
      {0, 0, 0, 0, 0}, {5, 5, 5, 5, 0}, {4, 5, 5, 5, 0}, {1, 0, 1, 1, 0}, {10, 0, 10, 10, 0},
      {11, 0, 0, 11, 1}, {100, 90, 100, 100, 0}, {100, 89, 89, 100, 1},
    };
    for (int[] row : rows) {
      StandbyPair x = twoMasters(1, 100, row[1], 2, 150, row[0]);
      String what = "demoted, " + row[0] + " to " + row[1] + ": ";
      x.tick(4);
      Check.due(what + "one stays", x.masters(0), 4);
      Check.due(what + "known", x.known(1, 0), row[2]);
      Check.due(what + "no repair yet", x.repairs(), 0);
      x.tick(4);
      Check.due(what + "known then", x.known(1, 0), row[3]);
      Check.due(what + "repairs then", x.repairs(), row[4]);
      Check.due(what + "the sender's stays", x.known(2, 0), row[0]);
    }
  }

  // 'one that was is counted', 'how many bulk repairs there were in all'
  private static void repairsOfEachRouter() {
    StandbyPair x = new StandbyPair();
    x.setPriority(2, 1, 254);
    x.tick(12);
    x.setPriority(0, 1, 1);
    x.setPriority(1, 1, 1);
    x.setPriority(3, 1, 1);
    x.serve(1, 11);
    x.tick(4);
    Check.due("three asked", x.repairs(), 0);
    x.tick(4);
    Check.due("three done", x.repairs(), 3);
    Check.due("by all", x.known(0, 1) + x.known(1, 1) + x.known(3, 1), 33);
    x.serve(1, 10);
    x.tick(4);
    Check.due("a small step is no repair", x.repairs(), 3);
    x.serve(1, 100);
    x.tick(8);
    Check.due("three more", x.repairs(), 6);
  }
}
