/**
 * A group of gateway routers of which one at a time should answer for each of three shared
 * addresses. What each call promises stands in ../shared/DOC.md.
 *
 * <p>What belongs to a router in a group lies in rows that are indexed by its place (see placeOf),
 * what belongs to a link of a router in rows indexed by linkOf. Every index is in range because the
 * face tests its parameters first and all loops run over ROUTERS, GROUPS and LINKS alone.
 */
public final class StandbyPair {

  private static final int ROUTERS = 4;
  private static final int GROUPS = 3;
  private static final int LINKS = 2;

  private static final int MOST_PRIORITY = 254;
  private static final int MOST_DECREMENT = 100;
  private static final int MOST_PERIOD = 10;
  private static final int MOST_DELAY = 10;
  private static final int MOST_CONNECTIONS = 100;
  private static final int MOST_TICKS = 50;

  private static final int FIRST_PERIOD = 4;
  private static final int PERIODS_IN_WAIT = 3;
  private static final int SKEW_UNIT = 256;
  private static final int SMALL_STEP = 10;
  private static final int FAREWELL = 0;

  private static final int OUTSIDE = 0;
  private static final int BACKUP = 1;
  private static final int MASTER = 2;

  private final boolean[] alive = new boolean[ROUTERS];
  private final boolean[] joinedPairs = new boolean[ROUTERS * ROUTERS];

  private final boolean[] linkUp = new boolean[ROUTERS * LINKS];
  private final int[] decrements = new int[ROUTERS * LINKS];

  private final int[] periods = new int[GROUPS];
  private final boolean[] preempting = new boolean[GROUPS];
  private final int[] delays = new int[GROUPS];
  private final int[] gapTicks = new int[GROUPS];
  private final int[] advertisements = new int[GROUPS];

  private final int[] basePriorities = new int[GROUPS * ROUTERS];
  private final int[] roles = new int[GROUPS * ROUTERS];
  private final int[] timers = new int[GROUPS * ROUTERS];
  private final int[] heard = new int[GROUPS * ROUTERS];
  private final int[] served = new int[GROUPS * ROUTERS];
  private final int[] promotions = new int[GROUPS * ROUTERS];
  private final boolean[] repairAsked = new boolean[GROUPS * ROUTERS];

  private int bulkRepairs;
  private int time;

  public StandbyPair() {
    for (int router = 0; router < ROUTERS; router++) {
      alive[router] = true;
    }
    for (int pair = 0; pair < ROUTERS * ROUTERS; pair++) {
      joinedPairs[pair] = true;
    }
    for (int link = 0; link < ROUTERS * LINKS; link++) {
      linkUp[link] = true;
    }
    for (int group = 0; group < GROUPS; group++) {
      periods[group] = FIRST_PERIOD;
      preempting[group] = true;
    }
  }

  // ---- settings

  public int setPriority(int router, int group, int priority) throws IllegalArgumentException {
    checkRouter(router);
    checkGroup(group);
    checkRange(priority, 0, MOST_PRIORITY);
    int place = placeOf(router, group);
    int before = basePriorities[place];
    if (priority == 0 && roles[place] == MASTER) {
      advertise(router, group, FAREWELL);
    }
    basePriorities[place] = priority;
    if (priority == 0) {
      roles[place] = OUTSIDE;
    } else if (alive[router] && roles[place] == OUTSIDE) {
      beginPart(router, group);
    }
    return before;
  }

  public int track(int router, int link, int decrement) throws IllegalArgumentException {
    checkRouter(router);
    checkLink(link);
    checkRange(decrement, 0, MOST_DECREMENT);
    int place = linkOf(router, link);
    int before = decrements[place];
    decrements[place] = decrement;
    return before;
  }

  public boolean setLink(int router, int link, boolean up) throws IllegalArgumentException {
    checkRouter(router);
    checkLink(link);
    int place = linkOf(router, link);
    boolean before = linkUp[place];
    linkUp[place] = up;
    return before;
  }

  public int setPeriod(int group, int ticks) throws IllegalArgumentException {
    checkGroup(group);
    checkRange(ticks, 1, MOST_PERIOD);
    int before = periods[group];
    periods[group] = ticks;
    return before;
  }

  public void setPreemption(int group, boolean on, int delay) throws IllegalArgumentException {
    checkGroup(group);
    checkRange(delay, 0, MOST_DELAY);
    preempting[group] = on;
    delays[group] = delay;
  }

  // ---- what happens

  public boolean join(int one, int other, boolean joined) throws IllegalArgumentException {
    checkRouter(one);
    checkRouter(other);
    if (one == other) {
      throw new IllegalArgumentException("a router can't be joined with itself");
    }
    boolean before = joinedPairs[one * ROUTERS + other];
    joinedPairs[one * ROUTERS + other] = joined;
    joinedPairs[other * ROUTERS + one] = joined;
    return before;
  }

  public int die(int router) throws IllegalArgumentException, IllegalStateException {
    checkRouter(router);
    if (!alive[router]) {
      throw new IllegalStateException("the router is dead");
    }
    alive[router] = false;
    int mastered = 0;
    for (int group = 0; group < GROUPS; group++) {
      int place = placeOf(router, group);
      if (roles[place] == MASTER) {
        mastered++;
      }
      roles[place] = OUTSIDE;
    }
    return mastered;
  }

  public int live(int router) throws IllegalArgumentException, IllegalStateException {
    checkRouter(router);
    if (alive[router]) {
      throw new IllegalStateException("the router is alive");
    }
    alive[router] = true;
    int parts = 0;
    for (int group = 0; group < GROUPS; group++) {
      if (basePriorities[placeOf(router, group)] > 0) {
        beginPart(router, group);
        parts++;
      }
    }
    return parts;
  }

  public void handOver(int router, int group)
      throws IllegalArgumentException, IllegalStateException {
    checkRouter(router);
    checkGroup(group);
    if (roles[placeOf(router, group)] != MASTER) {
      throw new IllegalStateException("the router is no master of the group");
    }
    becomeBackup(router, group);
    advertise(router, group, FAREWELL);
  }

  public int serve(int group, int connections) throws IllegalArgumentException {
    checkGroup(group);
    checkRange(connections, 1, MOST_CONNECTIONS);
    int serving = 0;
    for (int router = 0; router < ROUTERS; router++) {
      int place = placeOf(router, group);
      if (roles[place] == MASTER) {
        served[place] += connections;
        serving++;
      }
    }
    return serving;
  }

  public int tick(int ticks) throws IllegalArgumentException {
    checkRange(ticks, 1, MOST_TICKS);
    for (int passed = 0; passed < ticks; passed++) {
      for (int group = 0; group < GROUPS; group++) {
        runMasters(group);
        runBackups(group);
        noteGap(group);
      }
    }
    time += ticks;
    return time;
  }

  // ---- what is

  public int state(int router, int group) throws IllegalArgumentException {
    checkRouter(router);
    checkGroup(group);
    return roles[placeOf(router, group)];
  }

  public int priority(int router, int group) throws IllegalArgumentException {
    checkRouter(router);
    checkGroup(group);
    return roles[placeOf(router, group)] == OUTSIDE ? 0 : loweredPriority(router, group);
  }

  public int timer(int router, int group) throws IllegalArgumentException, IllegalStateException {
    checkRouter(router);
    checkGroup(group);
    if (roles[placeOf(router, group)] == OUTSIDE) {
      throw new IllegalStateException("the router takes no part in the group");
    }
    return timers[placeOf(router, group)];
  }

  public int masters(int group) throws IllegalArgumentException {
    checkGroup(group);
    return membersWith(MASTER, group);
  }

  public int changes(int router, int group) throws IllegalArgumentException {
    checkRouter(router);
    checkGroup(group);
    return promotions[placeOf(router, group)];
  }

  public int gaps(int group) throws IllegalArgumentException {
    checkGroup(group);
    return gapTicks[group];
  }

  public int sent(int group) throws IllegalArgumentException {
    checkGroup(group);
    return advertisements[group];
  }

  public int known(int router, int group) throws IllegalArgumentException {
    checkRouter(router);
    checkGroup(group);
    return served[placeOf(router, group)];
  }

  public int repairs() {
    return bulkRepairs;
  }

  public boolean isSettled(int group) throws IllegalArgumentException {
    checkGroup(group);
    if (membersWith(MASTER, group) == 0) {
      return membersWith(BACKUP, group) == 0;
    }
    return !hasJoinedMasters(group);
  }

  // ---- the parts of a tick

  // A role is looked at when the router's turn comes: a master that an earlier advertisement of
  // the same tick has made a backup has no turn among the masters any more, but one among the
  // backups if that is still ahead.

  private void runMasters(int group) {
    for (int router = 0; router < ROUTERS; router++) {
      int place = placeOf(router, group);
      if (roles[place] == MASTER) {
        timers[place]--;
        if (timers[place] == 0) {
          advertise(router, group, loweredPriority(router, group));
          timers[place] = periods[group];
        }
      }
    }
  }

  private void runBackups(int group) {
    for (int router = 0; router < ROUTERS; router++) {
      int place = placeOf(router, group);
      if (roles[place] == BACKUP) {
        timers[place]--;
        if (timers[place] == 0) {
          roles[place] = MASTER;
          promotions[place]++;
          advertise(router, group, loweredPriority(router, group));
          timers[place] = periods[group];
        }
      }
    }
  }

  private void noteGap(int group) {
    if (membersWith(MASTER, group) == 0) {
      gapTicks[group]++;
    }
  }

  // ---- advertisements

  private void advertise(int sender, int group, int number) {
    advertisements[group]++;
    for (int router = 0; router < ROUTERS; router++) {
      if (router != sender && joinedPairs[sender * ROUTERS + router]) {
        int role = roles[placeOf(router, group)];
        if (role == MASTER) {
          receiveAsMaster(router, group, sender, number);
        } else if (role == BACKUP) {
          receiveAsBackup(router, group, sender, number);
        }
      }
    }
  }

  private void receiveAsMaster(int router, int group, int sender, int number) {
    int own = loweredPriority(router, group);
    if (number > own || (number == own && sender > router)) {
      becomeBackup(router, group);
      copyServed(router, group, sender);
    }
  }

  private void receiveAsBackup(int router, int group, int sender, int number) {
    int place = placeOf(router, group);
    int own = loweredPriority(router, group);
    if (number == FAREWELL) {
      // No whole wait: the shorter timers are skewed, so that the best backup takes over soon.
      timers[place] = skewOf(own, group) + 1;
    } else if (preempting[group] && own > number) {
      if (heard[place] >= delays[group]) {
        // The timer runs on, which is how the better router gets to pre-empt the master.
        return;
      }
      heard[place]++;
      timers[place] = waitOf(own, group);
    } else {
      heard[place] = 0;
      timers[place] = waitOf(own, group);
    }
    copyServed(router, group, sender);
  }

  private void copyServed(int router, int group, int sender) {
    int own = placeOf(router, group);
    int ahead = served[placeOf(sender, group)] - served[own];
    if (ahead <= 0) {
      return;
    }
    if (ahead > SMALL_STEP && !repairAsked[own]) {
      repairAsked[own] = true;
      return;
    }
    served[own] += ahead;
    if (repairAsked[own]) {
      repairAsked[own] = false;
      bulkRepairs++;
    }
  }

  // ---- roles

  private void beginPart(int router, int group) {
    becomeBackup(router, group);
    repairAsked[placeOf(router, group)] = false;
  }

  private void becomeBackup(int router, int group) {
    int place = placeOf(router, group);
    roles[place] = BACKUP;
    heard[place] = 0;
    timers[place] = waitOf(loweredPriority(router, group), group);
  }

  /** The sum of 2 to the power of the number of each router that has the role in the group. */
  private int membersWith(int role, int group) {
    int sum = 0;
    for (int router = 0; router < ROUTERS; router++) {
      if (roles[placeOf(router, group)] == role) {
        sum += 1 << router;
      }
    }
    return sum;
  }

  private boolean hasJoinedMasters(int group) {
    for (int one = 0; one < ROUTERS; one++) {
      for (int other = one + 1; other < ROUTERS; other++) {
        if (roles[placeOf(one, group)] == MASTER
            && roles[placeOf(other, group)] == MASTER
            && joinedPairs[one * ROUTERS + other]) {
          return true;
        }
      }
    }
    return false;
  }

  // ---- priorities and timers

  private int loweredPriority(int router, int group) {
    int lowered = basePriorities[placeOf(router, group)];
    for (int link = 0; link < LINKS; link++) {
      int place = linkOf(router, link);
      if (!linkUp[place]) {
        lowered -= decrements[place];
      }
    }
    return Math.max(lowered, 1);
  }

  private int waitOf(int priority, int group) {
    return PERIODS_IN_WAIT * periods[group] + skewOf(priority, group);
  }

  private int skewOf(int priority, int group) {
    return periods[group] * (SKEW_UNIT - priority) / SKEW_UNIT;
  }

  // ---- places and parameters

  private static int placeOf(int router, int group) {
    return group * ROUTERS + router;
  }

  private static int linkOf(int router, int link) {
    return router * LINKS + link;
  }

  private static void checkRouter(int router) {
    if (router < 0 || router >= ROUTERS) {
      throw new IllegalArgumentException("a router is 0 to 3");
    }
  }

  private static void checkGroup(int group) {
    if (group < 0 || group >= GROUPS) {
      throw new IllegalArgumentException("a group is 0 to 2");
    }
  }

  private static void checkLink(int link) {
    if (link < 0 || link >= LINKS) {
      throw new IllegalArgumentException("a link is 0 or 1");
    }
  }

  private static void checkRange(int value, int least, int most) {
    if (value < least || value > most) {
      throw new IllegalArgumentException("a parameter is out of its range");
    }
  }
}
