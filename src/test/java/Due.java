/** What the tests share: it tells each answer that is not the one that is due, and counts them. */
final class Due {
  /** A call that may throw. */
  interface Call {
    Object answer();
  }

  static final Class<? extends RuntimeException> INDEX = IndexOutOfBoundsException.class;
  static final Class<? extends RuntimeException> ARGUMENT = IllegalArgumentException.class;
  static final Class<? extends RuntimeException> STATE = IllegalStateException.class;

  private String sentence = "";
  private int wrong;
  private int checks;

  /** Of which sentence of the document the checks are that follow: a wrong answer is told with it. */
  void about(String words) {
    sentence = "\"" + words + "\": ";
  }

  /** An int, a long, a boolean, a double or a text, the same on both sides. */
  void is(String call, Object got, Object want) {
    checks++;
    boolean isSame = got instanceof Number && want instanceof Number
        && !(got instanceof Double) && !(want instanceof Double)
        ? ((Number) got).longValue() == ((Number) want).longValue()
        : want.equals(got);
    if (!isSame) {
      wrong++;
      System.out.println(sentence + call + " answered " + got + ", due is " + want);
    }
  }

  /** What lies just outside of least to most, and the least and the greatest int. */
  static int[] outside(int least, int most) {
    return new int[] {Integer.MIN_VALUE, least - 1, most + 1, Integer.MAX_VALUE};
  }

  /** That a call throws just this exception, and changes nothing that can be asked. */
  void refuses(Undermost x, String call, Class<? extends RuntimeException> due, Call c) {
    String before = Everything.of(x);
    is(call, thrownBy(c), due.getSimpleName());
    is("all that can be asked behind " + call, Everything.of(x), before);
  }

  static String thrownBy(Call c) {
    try {
      return "nothing but " + c.answer();
    } catch (RuntimeException e) {
      return e.getClass().getSimpleName() + (isThrownByHand(e) ? "" : " of the machine");
    }
  }

  /** What the machine or a list throws may bear the right name, but the class is to throw it itself. */
  private static boolean isThrownByHand(RuntimeException e) {
    StackTraceElement[] trace = e.getStackTrace();
    return trace.length > 0
        && (trace[0].getClassName().startsWith("Undermost")
            || trace[0].getClassName().startsWith("Plain"));
  }

  /** Ends the program: with 1 if an answer was wrong, or if nothing was checked. */
  void end() {
    System.out.println(checks + " checks, " + wrong + " wrong");
    if (wrong != 0 || checks == 0) {
      System.exit(1);
    }
  }
}
