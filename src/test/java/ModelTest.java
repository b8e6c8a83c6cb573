import java.util.Random;
import java.util.function.Supplier;

/** Long runs of calls, the same in every test, each answer compared with that of the model. */
public final class ModelTest {

  private static final int RUNS = 3000;
  private static final int CALLS = 512;
  private static final int[] FAR = {Integer.MIN_VALUE, -2, -1, 255, 1000, Integer.MAX_VALUE};

  private final Random random;
  /** How many of a run's calls have a parameter that may be out of range, in a hundred. */
  private final int wrongs;
  private final int farWaits;
  private final StandbyPair pair = new StandbyPair();
  private final Model model = new Model();
  private final StringBuilder told = new StringBuilder();
  private boolean agreed = true;

  private ModelTest(int seed) {
    random = new Random(seed);
    wrongs = seed % 3 == 0 ? 25 : 2;
    farWaits = 3 + seed % 40;
  }

  public static void main(String[] args) {
    for (int seed = 0; seed < RUNS; seed++) {
      ModelTest run = new ModelTest(seed);
      for (int n = 0; n < CALLS && run.agreed; n++) {
        run.call();
      }
      if (!run.agreed) {
        Check.wrong("seed " + seed + ":" + run.told);
        break;
      }
    }
    farBeyondTheLastCall();
    Check.end();
  }

  /** What such late calls answer is free, but they must not throw what the document does not name. */
  private static void farBeyondTheLastCall() {
    ModelTest run = new ModelTest(3);
    for (int n = 0; n < 100_000 && run.agreed; n++) {
      run.told.setLength(0);
      run.call();
    }
    Check.due("100000 calls of one object agree", run.agreed, true);
  }

  /** Mostly least to most, or the next number beyond them, or one far away. */
  private int value(int least, int most) {
    if (random.nextInt(100) >= wrongs) {
      return least + random.nextInt(most - least + 1);
    }
    int kind = random.nextInt(4);
    return kind == 0 ? least - 1 : kind == 1 ? most + 1 : kind == 2 ? most
        : FAR[random.nextInt(FAR.length)];
  }

  private int router() {
    return value(0, 3);
  }

  private int group() {
    return value(0, 2);
  }

  /** Few different ones, so that routers are often equal, and now and then any. */
  private int base() {
    int kind = random.nextInt(8);
    return kind == 0 ? 0 : kind < 4 ? value(0, 254) : 64 * random.nextInt(4) + random.nextInt(2);
  }

  private void compare(String call, String want, Supplier<Object> answer) {
    String got;
    try {
      got = "" + answer.get();
    } catch (RuntimeException e) {
      got = e.getClass().getName();
    }
    told.append(' ').append(call).append(" -> ").append(got).append(';');
    if (!got.equals(want)) {
      told.append(" due is ").append(want);
      agreed = false;
    }
  }

  private void call() {
    int kind = random.nextInt(100);
    if (kind < 18) {
      set(random.nextInt(7));
    } else if (kind < 55) {
      happen(random.nextInt(16));
    } else {
      read(random.nextInt(12));
    }
  }

  private void set(int kind) {
    boolean flag = random.nextBoolean();
    int router = router();
    int group = group();
    int link = value(0, 1);
    if (kind <= 2) {
      int base = base();
      compare("setPriority(" + router + ", " + group + ", " + base + ")",
          model.setPriority(router, group, base), () -> pair.setPriority(router, group, base));
    } else if (kind == 3) {
      int decrement = value(0, 100);
      compare("track(" + router + ", " + link + ", " + decrement + ")",
          model.track(router, link, decrement), () -> pair.track(router, link, decrement));
    } else if (kind == 4) {
      compare("setLink(" + router + ", " + link + ", " + flag + ")",
          model.setLink(router, link, flag), () -> pair.setLink(router, link, flag));
    } else if (kind == 5) {
      int ticks = value(1, 10);
      compare("setPeriod(" + group + ", " + ticks + ")",
          model.setPeriod(group, ticks), () -> pair.setPeriod(group, ticks));
    } else {
      int delay = random.nextBoolean() ? value(0, 10) : random.nextInt(3);
      compare("setPreemption(" + group + ", " + flag + ", " + delay + ")",
          model.setPreemption(group, flag, delay), () -> {
            pair.setPreemption(group, flag, delay);
            return "nothing";
          });
    }
  }

  private void happen(int kind) {
    int router = router();
    int group = group();
    if (kind <= 1) {
      int other = router();
      boolean joined = random.nextInt(3) != 0;
      compare("join(" + router + ", " + other + ", " + joined + ")",
          model.join(router, other, joined), () -> pair.join(router, other, joined));
    } else if (kind == 2 && random.nextInt(3) == 0) {
      compare("die(" + router + ")", model.die(router), () -> pair.die(router));
    } else if (kind <= 3) {
      compare("live(" + router + ")", model.live(router), () -> pair.live(router));
    } else if (kind == 4) {
      compare("handOver(" + router + ", " + group + ")", model.handOver(router, group), () -> {
        pair.handOver(router, group);
        return "nothing";
      });
    } else if (kind <= 7) {
      int connections = random.nextBoolean() ? value(1, 100) : 9 + random.nextInt(4);
      compare("serve(" + group + ", " + connections + ")",
          model.serve(group, connections), () -> pair.serve(group, connections));
    } else {
      int ticks = random.nextInt(farWaits) == 0 ? value(1, 50) : 1 + random.nextInt(4);
      compare("tick(" + ticks + ")", model.tick(ticks), () -> pair.tick(ticks));
    }
  }

  private void read(int kind) {
    int router = router();
    int group = group();
    String place = "(" + router + ", " + group + ")";
    switch (kind) {
      case 0:
        compare("state" + place, model.state(router, group), () -> pair.state(router, group));
        break;
      case 1:
        compare("priority" + place, model.priority(router, group),
            () -> pair.priority(router, group));
        break;
      case 2:
      case 3:
        compare("timer" + place, model.timer(router, group), () -> pair.timer(router, group));
        break;
      case 4:
        compare("masters(" + group + ")", model.masters(group), () -> pair.masters(group));
        break;
      case 5:
        compare("changes" + place, model.changes(router, group), () -> pair.changes(router, group));
        break;
      case 6:
        compare("gaps(" + group + ")", model.gaps(group), () -> pair.gaps(group));
        break;
      case 7:
        compare("sent(" + group + ")", model.sent(group), () -> pair.sent(group));
        break;
      case 8:
      case 9:
        compare("known" + place, model.known(router, group), () -> pair.known(router, group));
        break;
      case 10:
        compare("repairs()", model.repairs(), () -> pair.repairs());
        break;
      default:
        compare("isSettled(" + group + ")", model.isSettled(group), () -> pair.isSettled(group));
        break;
    }
  }
}
