/** Counts the answers of a test and prints those that are not the ones due. */
final class Due {
  private final String test;
  private int right = 0;
  private int wrong = 0;

  Due(String test) {
    this.test = test;
  }

  void is(String what, long got, long want) {
    if (got == want) {
      right++;
    } else {
      wrong++;
      System.out.println(test + ": " + what + " answered " + got + ", due is " + want);
    }
  }

  void is(String what, boolean got, boolean want) {
    is(what, got ? 1L : 0L, want ? 1L : 0L);
  }

  void is(String what, Object got, Object want) {
    if (!got.equals(want)) {
      System.out.println(test + ": " + what + ": " + got + ", due is " + want);
    }
    is(what, got.equals(want), true);
  }

  void end() {
    System.out.println(right + " passed, " + wrong + " failed");
    if (wrong != 0) {
      System.exit(1);
    }
  }
}
