/** Counts the answers that are not as due; a test's main method ends with done(). */
final class Check {
  static final String INDEX = "IndexOutOfBoundsException";
  static final String ARGUMENT = "IllegalArgumentException";
  static final String STATE = "IllegalStateException";

  private static int looked = 0;
  private static int wrong = 0;

  interface Call {
    int answer();
  }

  interface Action {
    void run();
  }

  private Check() {}

  /** What the call answers, or the simple name of what it throws. */
  static String outcome(Call call) {
    try {
      return Integer.toString(call.answer());
    } catch (RuntimeException e) {
      return e.getClass().getSimpleName();
    }
  }

  static void due(String what, int want, Call call) {
    same(what, Integer.toString(want), outcome(call));
  }

  static void refused(String what, String exception, Call call) {
    same(what, exception, outcome(call));
  }

  static void refusedAction(String what, String exception, Action action) {
    refused(what, exception, () -> {
      action.run();
      return 0;
    });
  }

  static void same(String what, Object want, Object got) {
    looked++;
    if (!want.equals(got)) {
      wrong++;
      System.out.println(what + ": answered " + got + ", due is " + want);
    }
  }

  static void done() {
    System.out.println(looked + " answers looked at, " + wrong + " wrong");
    if (wrong > 0 || looked == 0) {
      System.exit(1);
    }
  }
}
