/** Counts what is as due and what is not, and ends a test with the exit code that .ci/run looks at. */
final class Check {
  private static int right = 0;
  private static int wrong = 0;

  private Check() {}

  static void same(String what, Object got, Object want) {
    if (got == null ? want == null : got.equals(want)) {
      right++;
      return;
    }
    wrong++;
    if (wrong <= 40) System.out.println(what + ": answered " + got + ", due is " + want);
  }

  static void is(String what, boolean got) {
    same(what, got, true);
  }

  static int wrongs() {
    return wrong;
  }

  static void end() {
    System.out.println(right + " answers are as due, " + wrong + " are not");
    if (wrong > 0 || right == 0) System.exit(1);
  }
}
