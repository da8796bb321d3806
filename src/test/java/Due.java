/** Compares answers with those that are due and ends a test with exit code 1 if one was not. */
final class Due {
  private int wrong = 0;
  private String where = "";

  void at(String place) {
    where = place;
  }

  void is(String call, long got, long want) {
    if (got != want) {
      wrong++;
      System.out.println(where + ": " + call + " answered " + got + ", due is " + want);
    }
  }

  void is(String call, boolean got, boolean want) {
    is(call, got ? 1L : 0L, want ? 1L : 0L);
  }

  void same(String what, String got, String want) {
    if (!got.equals(want)) {
      wrong++;
      System.out.println(where + ": " + what + " is\n  " + got + "\ndue is\n  " + want);
    }
  }

  void end() {
    System.out.println(wrong == 0 ? "all answers are as due" : wrong + " answers are not as due");
    if (wrong != 0) {
      System.exit(1);
    }
  }
}
