/** Counts what holds and what does not, and ends the test program with its exit code. */
final class Check {
  interface Call {
    long run();
  }

  static final String STATE = "IllegalStateException";
  static final String ARGUMENT = "IllegalArgumentException";
  static final String INDEX = "IndexOutOfBoundsException";

  private static int wrong = 0;
  private static int right = 0;
  private static String about = "";

  private Check() {}

  static void same(String what, long got, long due) {
    if (got == due) {
      right++;
    } else {
      fail(what + " answered " + got + ", due is " + due);
    }
  }

  static void holds(String what, boolean holding) {
    if (holding) {
      right++;
    } else {
      fail(what);
    }
  }

  static void fail(String what) {
    wrong++;
    if (wrong <= 50) {
      System.out.println(about + what);
    }
  }

  /** What is checked from now on is about this; a check that fails says so. */
  static void about(String text) {
    about = text;
  }

  static int made() {
    return right + wrong;
  }

  /** The answer as a text; an exception as throws. and its exact class. */
  static String answer(Call call) {
    try {
      return Long.toString(call.run());
    } catch (RuntimeException e) {
      return "throws." + e.getClass().getSimpleName();
    }
  }

  static void throwing(String what, String exception, Call call) {
    String got = answer(call);
    if (got.equals("throws." + exception)) {
      right++;
    } else {
      fail(what + " answered " + got + ", due is throws." + exception);
    }
  }

  /** Like throwing(), and the call must have changed nothing that digest() tells. */
  static void refused(Canticle x, String what, String exception, Call call) {
    long before = x.digest();
    throwing(what, exception, call);
    same("digest() after " + what, x.digest(), before);
  }

  static void end(String name) {
    System.out.println(name + ": " + right + " checks held, " + wrong + " did not");
    if (wrong > 0) {
      System.exit(1);
    }
  }
}
