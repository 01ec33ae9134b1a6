import java.util.Objects;

/** Counts what a test program checks, prints what is wrong, and ends the program. */
final class Check {
  /** A call that may throw. */
  interface Call {
    Object make();
  }

  private static int right = 0;
  private static int wrong = 0;
  private static String part = "";

  static {
    // A call that throws where no exception is due ends the program: which part was it?
    Thread.currentThread()
        .setUncaughtExceptionHandler(
            (thread, thrown) -> {
              System.out.println(part + ": threw " + thrown);
              thrown.printStackTrace();
              System.exit(1);
            });
  }

  private Check() {}

  static void part(String name) {
    part = name;
  }

  static void due(String call, Object got, Object want) {
    if (Objects.equals(got, want)) {
      right++;
      return;
    }
    wrong++;
    System.out.println(part + ": " + call + " answered " + got + ", due is " + want);
  }

  /** What the call answers, or the class of what it throws. */
  static Object answer(Call call) {
    try {
      return call.make();
    } catch (RuntimeException e) {
      return e.getClass();
    }
  }

  static void noShelf(String call, Call made) {
    due(call, answer(made), IndexOutOfBoundsException.class);
  }

  static void badArgument(String call, Call made) {
    due(call, answer(made), IllegalArgumentException.class);
  }

  static void noWalker(String call, Call made) {
    due(call, answer(made), IllegalStateException.class);
  }

  static void end(String program) {
    System.out.println(program + ": " + right + " answers right, " + wrong + " wrong");
    if (wrong != 0) {
      System.exit(1);
    }
  }
}
