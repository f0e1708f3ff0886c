/** Counts the answers that are not as due and ends a test with exit code 1 if there was one. */
final class Check {
  /** A call that may throw. */
  interface Call {
    Object answer();
  }

  private static final int SHOWN = 20;
  private static int wrong = 0;
  private static long asked = 0;
  private static String sentence = "";

  /** Names the document's sentence that the answers from here on are due by. */
  static void sentence(String words) {
    sentence = "[" + words + "] ";
  }

  static void due(String call, Object want, Call call2) {
    asked++;
    String got;
    try {
      got = String.valueOf(call2.answer());
    } catch (RuntimeException e) {
      got = e.getClass().getSimpleName();
    }
    if (!got.equals(String.valueOf(want))) {
      wrong++;
      if (wrong <= SHOWN) System.out.println(sentence + call + " answered " + got + ", due is " + want);
    }
  }

  static void holds(String what, boolean isSo) {
    due(what, true, () -> isSo);
  }

  static void end(String test) {
    System.out.println(test + ": " + asked + " answers, " + wrong + " not as due");
    if (wrong != 0) System.exit(1);
  }

  static final String BAD = "IllegalArgumentException";
  static final String STATE = "IllegalStateException";
  static final String INDEX = "IndexOutOfBoundsException";
  static final String NONE = "NoSuchElementException";

  private Check() {
  }
}
