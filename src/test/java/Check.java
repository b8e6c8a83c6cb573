import java.util.function.Consumer;

/** What the tests share: counting wrong answers, and telling whether a refused call changed anything. */
final class Check {

  private static int wrong = 0;

  private Check() {}

  static void due(String what, long got, long want) {
    if (got != want) {
      wrong(what + " answered " + got + ", due is " + want);
    }
  }

  static void due(String what, boolean got, boolean want) {
    if (got != want) {
      wrong(what + " answered " + got + ", due is " + want);
    }
  }

  static void due(String what, String got, String want) {
    if (!got.equals(want)) {
      wrong(what + " answered " + got + ", due is " + want);
    }
  }

  static void wrong(String what) {
    wrong++;
    System.out.println(what);
  }

  static void outOfRange(String what, Consumer<StandbyPair> call) {
    refused(what, IllegalArgumentException.class, call);
  }

  static void illegalState(String what, Consumer<StandbyPair> call) {
    refused(what, IllegalStateException.class, call);
  }

  /** The call must throw, and an object that it was tried on must go on like one that it was not. */
  private static void refused(String what, Class<?> kind, Consumer<StandbyPair> call) {
    StandbyPair tried = Samples.busy();
    String thrown = thrownBy(tried, call);
    due(what + " throws", thrown, kind.getName());
    due("after " + what + ", all that follows", Samples.trail(tried), Samples.trail(Samples.busy()));
  }

  static String thrownBy(StandbyPair pair, Consumer<StandbyPair> call) {
    try {
      call.accept(pair);
      return "nothing";
    } catch (RuntimeException e) {
      return e.getClass().getName();
    }
  }

  static void end() {
    System.out.println(wrong == 0 ? "all answers are as due" : wrong + " answers are not as due");
    if (wrong != 0) {
      System.exit(1);
    }
  }
}
