/** Counts and prints the answers that are not the ones that are due. */
final class Check {
  interface Call {
    long answer();
  }

  private static int checks = 0;
  private static int wrong = 0;
  private static String about = "";

  private Check() {}

  static void about(String topic) {
    about = topic;
  }

  static void due(String call, long want, long got) {
    checks++;
    if (got != want) {
      tell(call + " answered " + got + ", due is " + want);
    }
  }

  static void yes(String call, boolean got) {
    due(call, 1, got ? 1 : 0);
  }

  static void no(String call, boolean got) {
    due(call, 0, got ? 1 : 0);
  }

  /** The exception must be of just this class: a machine's own one would be of a class below it. */
  static void throwsA(Class<? extends RuntimeException> kind, String call, Call code) {
    checks++;
    String got = outcome(code);
    if (!got.equals("throws." + kind.getSimpleName())) {
      tell(call + " gave " + got + ", due is throws." + kind.getSimpleName());
    }
  }

  /** The answer as a text, or the exception's name behind "throws.". */
  static String outcome(Call code) {
    try {
      return Long.toString(code.answer());
    } catch (RuntimeException e) {
      return "throws." + e.getClass().getSimpleName();
    }
  }

  static void same(String call, String want, String got) {
    checks++;
    if (!want.equals(got)) {
      tell(call + " gave " + got + ", due is " + want);
    }
  }

  /** The call answers, whatever it is. */
  static void taken(String call, Call code) {
    checks++;
    String got = outcome(code);
    if (got.startsWith("throws.")) {
      tell(call + " gave " + got + ", due is an answer");
    }
  }

  /** The call throws, whatever it is: a test of its own tells the class. */
  static void turnedDown(String call, Call code) {
    checks++;
    String got = outcome(code);
    if (!got.startsWith("throws.")) {
      tell(call + " answered " + got + ", due is an exception");
    }
  }

  static int checksSoFar() {
    return checks;
  }

  static int wrongSoFar() {
    return wrong;
  }

  private static void tell(String what) {
    wrong++;
    if (wrong <= 50) {
      System.out.println(about + ": " + what);
    }
  }

  static void end() {
    System.out.println(wrong == 0 ? checks + " checks, all as due" : wrong + " of " + checks + " checks not as due");
    if (wrong != 0) {
      System.exit(1);
    }
  }
}
