/**
 * The document told once more, in objects instead of rows and with answers as texts, for ModelTest
 * to compare with. A refused call answers the name of its exception.
 */
final class Model {

  private static final String ARGUMENT = "java.lang.IllegalArgumentException";
  private static final String STATE = "java.lang.IllegalStateException";

  private static final class Router {
    int number;
    boolean alive = true;
    boolean[] linkDown = new boolean[2];
    int[] decrement = new int[2];
    boolean[] cutFrom = new boolean[4];
  }

  private static final class Group {
    int period = 4;
    boolean preemption = true;
    int delay;
    int gaps;
    int sent;
    Member[] members = new Member[4];
  }

  private final class Member {
    Router router;
    Group group;
    int base;
    boolean master;
    boolean backup;
    int timer;
    int heard;
    int number;
    boolean bulk;
    int changes;

    boolean takesPart() {
      return router.alive && base > 0;
    }

    int priority() {
      int sum = 0;
      for (int link = 0; link < 2; link++) {
        sum += router.linkDown[link] ? router.decrement[link] : 0;
      }
      return base - sum < 1 ? 1 : base - sum;
    }

    int skew() {
      return (int) Math.floor(group.period * (256 - priority()) / 256.0);
    }

    int waiting() {
      return 3 * group.period + skew();
    }

    void toBackup() {
      master = false;
      backup = true;
      heard = 0;
      timer = waiting();
    }

    void begin() {
      toBackup();
      bulk = false;
    }

    void end() {
      master = false;
      backup = false;
    }

    void send(int number) {
      group.sent++;
      for (Member other : group.members) {
        if (other != this && other.takesPart() && !router.cutFrom[other.router.number]) {
          other.hear(this, number);
        }
      }
    }

    void hear(Member sender, int said) {
      if (master) {
        boolean sameButGreater = said == priority() && sender.router.number > router.number;
        if (said > priority() || sameButGreater) {
          toBackup();
          copy(sender);
        }
      } else if (said == 0) {
        timer = skew() + 1;
        copy(sender);
      } else if (group.preemption && priority() > said) {
        if (heard < group.delay) {
          heard++;
          timer = waiting();
          copy(sender);
        }
      } else {
        heard = 0;
        timer = waiting();
        copy(sender);
      }
    }

    void copy(Member sender) {
      if (sender.number <= number) {
        return;
      }
      if (bulk) {
        bulk = false;
        repairs++;
        number = sender.number;
      } else if (sender.number - number <= 10) {
        number = sender.number;
      } else {
        bulk = true;
      }
    }
  }

  private final Router[] routers = new Router[4];
  private final Group[] groups = new Group[3];
  private int time;
  private int repairs;

  Model() {
    for (int r = 0; r < 4; r++) {
      routers[r] = new Router();
      routers[r].number = r;
    }
    for (int g = 0; g < 3; g++) {
      groups[g] = new Group();
      for (int r = 0; r < 4; r++) {
        Member member = new Member();
        member.router = routers[r];
        member.group = groups[g];
        groups[g].members[r] = member;
      }
    }
  }

  private static boolean in(int value, int least, int most) {
    return value >= least && value <= most;
  }

  private static boolean place(int router, int group) {
    return in(router, 0, 3) && in(group, 0, 2);
  }

  String setPriority(int router, int group, int priority) {
    if (!place(router, group) || !in(priority, 0, 254)) {
      return ARGUMENT;
    }
    Member member = groups[group].members[router];
    int before = member.base;
    boolean took = member.takesPart();
    if (member.master && priority == 0) {
      member.send(0);
    }
    member.base = priority;
    if (!took && member.takesPart()) {
      member.begin();
    }
    if (took && !member.takesPart()) {
      member.end();
    }
    return "" + before;
  }

  String track(int router, int link, int decrement) {
    if (!in(router, 0, 3) || !in(link, 0, 1) || !in(decrement, 0, 100)) {
      return ARGUMENT;
    }
    int before = routers[router].decrement[link];
    routers[router].decrement[link] = decrement;
    return "" + before;
  }

  String setLink(int router, int link, boolean up) {
    if (!in(router, 0, 3) || !in(link, 0, 1)) {
      return ARGUMENT;
    }
    boolean before = !routers[router].linkDown[link];
    routers[router].linkDown[link] = !up;
    return "" + before;
  }

  String setPeriod(int group, int ticks) {
    if (!in(group, 0, 2) || !in(ticks, 1, 10)) {
      return ARGUMENT;
    }
    int before = groups[group].period;
    groups[group].period = ticks;
    return "" + before;
  }

  String setPreemption(int group, boolean on, int delay) {
    if (!in(group, 0, 2) || !in(delay, 0, 10)) {
      return ARGUMENT;
    }
    groups[group].preemption = on;
    groups[group].delay = delay;
    return "nothing";
  }

  String join(int one, int other, boolean joined) {
    if (!in(one, 0, 3) || !in(other, 0, 3) || one == other) {
      return ARGUMENT;
    }
    boolean before = !routers[one].cutFrom[other];
    routers[one].cutFrom[other] = !joined;
    routers[other].cutFrom[one] = !joined;
    return "" + before;
  }

  String die(int router) {
    if (!in(router, 0, 3)) {
      return ARGUMENT;
    }
    if (!routers[router].alive) {
      return STATE;
    }
    int count = 0;
    for (Group group : groups) {
      count += group.members[router].master ? 1 : 0;
      group.members[router].end();
    }
    routers[router].alive = false;
    return "" + count;
  }

  String live(int router) {
    if (!in(router, 0, 3)) {
      return ARGUMENT;
    }
    if (routers[router].alive) {
      return STATE;
    }
    routers[router].alive = true;
    int count = 0;
    for (Group group : groups) {
      if (group.members[router].takesPart()) {
        group.members[router].begin();
        count++;
      }
    }
    return "" + count;
  }

  String handOver(int router, int group) {
    if (!place(router, group)) {
      return ARGUMENT;
    }
    Member member = groups[group].members[router];
    if (!member.master) {
      return STATE;
    }
    member.toBackup();
    member.send(0);
    return "nothing";
  }

  String serve(int group, int connections) {
    if (!in(group, 0, 2) || !in(connections, 1, 100)) {
      return ARGUMENT;
    }
    int count = 0;
    for (Member member : groups[group].members) {
      if (member.master) {
        member.number += connections;
        count++;
      }
    }
    return "" + count;
  }

  String tick(int ticks) {
    if (!in(ticks, 1, 50)) {
      return ARGUMENT;
    }
    for (int n = 0; n < ticks; n++) {
      time++;
      for (Group group : groups) {
        tick(group);
      }
    }
    return "" + time;
  }

  private static void tick(Group group) {
    for (Member member : group.members) {
      if (member.master && --member.timer == 0) {
        member.send(member.priority());
        member.timer = group.period;
      }
    }
    for (Member member : group.members) {
      if (member.backup && --member.timer == 0) {
        member.backup = false;
        member.master = true;
        member.changes++;
        member.send(member.priority());
        member.timer = group.period;
      }
    }
    boolean anyMaster = false;
    for (Member member : group.members) {
      anyMaster |= member.master;
    }
    group.gaps += anyMaster ? 0 : 1;
  }

  String state(int router, int group) {
    if (!place(router, group)) {
      return ARGUMENT;
    }
    Member member = groups[group].members[router];
    return !member.takesPart() ? "0" : member.master ? "2" : "1";
  }

  String priority(int router, int group) {
    if (!place(router, group)) {
      return ARGUMENT;
    }
    Member member = groups[group].members[router];
    return member.takesPart() ? "" + member.priority() : "0";
  }

  String timer(int router, int group) {
    if (!place(router, group)) {
      return ARGUMENT;
    }
    Member member = groups[group].members[router];
    return member.takesPart() ? "" + member.timer : STATE;
  }

  String masters(int group) {
    if (!in(group, 0, 2)) {
      return ARGUMENT;
    }
    int sum = 0;
    int power = 1;
    for (Member member : groups[group].members) {
      sum += member.master ? power : 0;
      power *= 2;
    }
    return "" + sum;
  }

  String changes(int router, int group) {
    return place(router, group) ? "" + groups[group].members[router].changes : ARGUMENT;
  }

  String gaps(int group) {
    return in(group, 0, 2) ? "" + groups[group].gaps : ARGUMENT;
  }

  String sent(int group) {
    return in(group, 0, 2) ? "" + groups[group].sent : ARGUMENT;
  }

  String known(int router, int group) {
    return place(router, group) ? "" + groups[group].members[router].number : ARGUMENT;
  }

  String repairs() {
    return "" + repairs;
  }

  String isSettled(int group) {
    if (!in(group, 0, 2)) {
      return ARGUMENT;
    }
    boolean takesPart = false;
    boolean master = false;
    boolean joinedMasters = false;
    for (Member one : groups[group].members) {
      takesPart |= one.takesPart();
      master |= one.master;
      for (Member other : groups[group].members) {
        boolean both = one != other && one.master && other.master;
        joinedMasters |= both && !one.router.cutFrom[other.router.number];
      }
    }
    return "" + (!joinedMasters && (master || !takesPart));
  }
}
