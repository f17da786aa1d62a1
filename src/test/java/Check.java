/** Counts and prints the calls whose answer is not the one that is due. */
final class Check {
  private final String test;
  private int asked = 0;
  private int wrong = 0;

  Check(String test) {
    this.test = test;
  }

  void due(String call, long got, long want) {
    asked++;
    if (got != want) {
      wrong++;
      if (wrong <= 40) {
        System.out.println(test + ": " + call + " answered " + got + ", due is " + want);
      }
    }
  }

  void holds(String what, boolean truth) {
    due(what, truth ? 1 : 0, 1);
  }

  boolean isClean() {
    return wrong == 0;
  }

  void finish() {
    System.out.println(test + ": " + asked + " answers, " + wrong + " not as due");
    if (wrong != 0) {
      System.exit(1);
    }
  }
}
