import java.util.function.IntToLongFunction;

/** Counts and prints the calls whose answer is not the one that is due. */
final class Check {
  static final int MIN = Integer.MIN_VALUE;
  static final int MAX = Integer.MAX_VALUE;

  private final String test;
  private String sentence = "";
  private int sentences = 0;
  private int asked = 0;
  private int wrong = 0;

  Check(String test) {
    this.test = test;
  }

  void due(String call, long got, long want) {
    asked++;
    if (got != want) {
      fail(call + " answered " + got + ", due is " + want);
    }
  }

  void holds(String what, boolean truth) {
    due(what, truth ? 1 : 0, 1);
  }

  /**
   * The test of one sentence of the document, in the document's words (behind a bar: which case of
   * it). It fails, too, if a call throws or nothing is asked; the other sentences' tests still run.
   */
  void sentence(String words, Runnable itsTest) {
    int before = asked;
    sentence = " \"" + words + "\"";
    sentences++;
    try {
      itsTest.run();
    } catch (RuntimeException thrown) {
      fail("a call threw " + thrown);
    }
    if (asked == before) {
      fail("nothing was asked");
    }
    sentence = "";
  }

  /** The answers due at the edges of a range: a number, its answer, a number, its answer, .. */
  void edges(String call, IntToLongFunction answer, long... numbersAndAnswers) {
    for (int i = 0; i + 1 < numbersAndAnswers.length; i += 2) {
      int number = (int) numbersAndAnswers[i];
      due(call + " with n = " + number, answer.applyAsLong(number), numbersAndAnswers[i + 1]);
    }
  }

  private void fail(String what) {
    wrong++;
    if (wrong <= 40) {
      System.out.println(test + sentence + ": " + what);
    }
  }

  boolean isClean() {
    return wrong == 0;
  }

  void finish() {
    String of = sentences == 0 ? "" : sentences + " sentences, ";
    System.out.println(test + ": " + of + asked + " answers, " + wrong + " not as due");
    if (wrong != 0) {
      System.exit(1);
    }
  }
}
