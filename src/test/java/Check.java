import java.util.function.Consumer;
import java.util.function.Supplier;

/** What the tests share: counting wrong answers, and telling whether a refused call changed anything. */
final class Check {

  private static int wrong = 0;

  private Check() {}

  static void due(String what, long got, long want) {
    if (got != want) {
      wrong(what + " answered " + got + ", due is " + want);
    }
  }

  static void due(String what, boolean got, boolean want) {
    if (got != want) {
      wrong(what + " answered " + got + ", due is " + want);
    }
  }

  static void due(String what, String got, String want) {
    if (!got.equals(want)) {
      wrong(what + " answered " + got + ", due is " + want);
    }
  }

  static void wrong(String what) {
    wrong++;
    System.out.println(what);
  }

  /** Out of range is what is documented first, so it is thrown in whatever state the object is. */
  static void outOfRange(String what, Consumer<StandbyPair> call) {
    for (Supplier<StandbyPair> made : Samples.STATES) {
      refused(what, made, "java.lang.IllegalArgumentException", call);
    }
  }

  static void illegalState(String what, Consumer<StandbyPair> call) {
    illegalState(what, Samples::busy, call);
  }

  static void illegalState(
      String what, Supplier<StandbyPair> made, Consumer<StandbyPair> call) {
    refused(what, made, "java.lang.IllegalStateException", call);
  }

  static void accepted(String what, StandbyPair pair, Consumer<StandbyPair> call) {
    due(what + " throws", thrownBy(pair, call), "nothing");
  }

  /** The call must throw, and an object that it was tried on must go on like one that it was not. */
  private static void refused(
      String what, Supplier<StandbyPair> made, String kind, Consumer<StandbyPair> call) {
    StandbyPair tried = made.get();
    due(what + " throws", thrownBy(tried, call), kind);
    due("after " + what + ", all that follows", Samples.trail(tried), Samples.trail(made.get()));
    StandbyPair again = made.get();
    thrownBy(again, call);
    due("after " + what + ", settings", Samples.settings(again), Samples.settings(made.get()));
  }

  static String thrownBy(StandbyPair pair, Consumer<StandbyPair> call) {
    try {
      call.accept(pair);
      return "nothing";
    } catch (RuntimeException e) {
      return e.getClass().getName();
    }
  }

  static void end() {
    System.out.println(wrong == 0 ? "all answers are as due" : wrong + " answers are not as due");
    if (wrong != 0) {
      System.exit(1);
    }
  }
}
