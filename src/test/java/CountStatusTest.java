/** Promises 27 and 28: count, status. */
public final class CountStatusTest {
  private static final Check CHECK = new Check("CountStatusTest");

  public static void main(String[] args) {
    counts();
    statusOfRefusals();
    statusOfOthers();
    CHECK.finish();
  }

  private static void counts() {
    GoldLeaves x = new GoldLeaves();
    x.bar(100, 900, 50);
    x.bar(50, 900, 50);
    x.bar(25, 900, 50);
    x.cut(0, 10);
    x.cut(0, 10);
    x.melt(1, 2);
    x.leaf(3, 10);
    x.leaf(4, 10);
    x.bind(1);
    x.leaf(0, 10);
    x.skin(1);
    x.skin(1);
    x.skin(1);
    x.skin(1);
    Texts.colours(x, "a:gold 1 to 2;b:gold 1 to 2;c:gold 1 to 2;d:gold 1 to 2;e:gold 1 to 2");
    x.feed(0, 0, 0, 0, 0);
    x.end(11);
    int[] want = {3, 4, 5, 3, 2, 4, 5, 175, 11};
    for (int what = 0; what < want.length; what++) {
      CHECK.due("count(" + what + ")", x.count(what), want[what]);
    }
    CHECK.due("count(-1)", x.count(-1), -1);
    CHECK.due("count(9)", x.count(9), -1);
    CHECK.due("count(MIN)", x.count(Integer.MIN_VALUE), -1);
    CHECK.due("count(MAX)", x.count(Integer.MAX_VALUE), -1);
  }

  /** A call with its answer; status() is due to tell a refusal, and 0 otherwise. */
  private static void dueStatus(GoldLeaves x, String call, long got, long want) {
    CHECK.due(call, got, want);
    CHECK.due("status() behind " + call, x.status(), want < 0 ? want : 0);
  }

  private static void statusOfRefusals() {
    GoldLeaves x = new GoldLeaves();
    dueStatus(x, "bar", x.bar(0, 0, 0), -1);
    dueStatus(x, "bar", x.bar(10, 0, 0), 0);
    dueStatus(x, "cut", x.cut(0, 0), -1);
    dueStatus(x, "cut", x.cut(1, 1), -2);
    dueStatus(x, "cut", x.cut(0, 10), -3);
    dueStatus(x, "cut", x.cut(0, 2), 1);
    dueStatus(x, "melt", x.melt(0, 7), -2);
    dueStatus(x, "melt", x.melt(0, 0), -3);
    dueStatus(x, "melt", x.melt(0, 1), 10);
    dueStatus(x, "colours", Texts.colours(x, "a"), -6);
    dueStatus(x, "colours", Texts.colours(x, ""), 0);
    dueStatus(x, "skin", x.skin(101), -1);
    dueStatus(x, "skin", x.skin(100), 0);
    dueStatus(x, "dry", x.dry(0, 101), -1);
    dueStatus(x, "dry", x.dry(1, 10), -2);
    dueStatus(x, "dry", x.dry(0, 10), 100);
    dueStatus(x, "pack", x.pack(0, 0, 0, 0, 0, 0), -1);
    dueStatus(x, "pack", x.pack(0, 2, 0, 0, 0, 0), 0);
    dueStatus(x, "beat", x.beat(3, 0), -1);
    dueStatus(x, "beat", x.beat(0, 3), 0);
    dueStatus(x, "leaf", x.leaf(0, 0), -1);
    dueStatus(x, "leaf", x.leaf(1, 1), -2);
    dueStatus(x, "leaf", x.leaf(0, 1), 1);
    dueStatus(x, "leaf", x.leaf(0, 1), -3);
    dueStatus(x, "bind", x.bind(2), 0);
    dueStatus(x, "bind", x.bind(0), -1);
    dueStatus(x, "pass", x.pass(0, 1, 1, 1), 1);
    dueStatus(x, "pass", x.pass(9, 1, 1, 1), -1);
    dueStatus(x, "find", x.find(0, 1, 1), 1);
    dueStatus(x, "find", x.find(9, 1, 1), -1);
    for (int i = 1; i < 10; i++) {
      x.bar(10, 0, 0);
    }
    dueStatus(x, "bar", x.bar(10, 0, 0), -5);
  }

  private static void statusOfOthers() {
    GoldLeaves x = new GoldLeaves();
    x.bar(10, 0, 0);
    for (int turn = 0; turn < 2; turn++) {
      int want = turn == 0 ? -2 : 0;
      if (turn == 0) {
        x.cut(5, 5);
      } else {
        x.skin(5);
      }
      callsWithoutCode(x, want);
    }
  }

  private static void callsWithoutCode(GoldLeaves x, int want) {
    long[] answers = {
      x.weight(0), x.weight(9), x.from(0, 0), x.from(9, 9), x.part(0, 0), x.part(9, 9),
      x.feed(0, 0, 0, 0, 0), x.end(0), x.end(-1), x.end(999), x.fault(), x.colour(0), x.colour(9),
      x.age(0), x.age(99), x.flatter(0, 0), x.book(0), x.book(9), x.surface(1, 1, 1, 0),
      x.surface(0, 0, 0, 0), x.held(0, 0, 0), x.held(9, 9, 9), x.missing(0, 0), x.missing(9, 9),
      x.count(0), x.count(99), x.status(),
    };
    CHECK.due("status() among others", answers[answers.length - 1], want);
    for (int i = 0; i < 16; i++) {
      x.feed(0, 0, 0, 0, 0);
    }
    CHECK.due("status() behind a full tape", x.status(), want);
    x.end(0);
    CHECK.due("status() behind end", x.status(), want);
  }
}
