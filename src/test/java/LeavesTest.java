/** Promises 18 to 22: leaf, flatter, bind, book, surface. */
public final class LeavesTest {
  private static final Check CHECK = new Check("LeavesTest");

  public static void main(String[] args) {
    leaves();
    flatness();
    binding();
    bindingManyBooks();
    surfaces();
    surfaceBounds();
    CHECK.finish();
  }

  private static void leaves() {
    GoldLeaves x = new GoldLeaves();
    CHECK.due("leaf(0, 1) without pieces", x.leaf(0, 1), -2);
    CHECK.due("leaf(0, 0) without pieces", x.leaf(0, 0), -1);
    x.bar(10, 1000, 0);
    x.bar(10, 1000, 0);
    x.bar(10, 1000, 0);
    CHECK.due("leaf(0, -1)", x.leaf(0, -1), -1);
    CHECK.due("leaf(0, 10001)", x.leaf(0, 10_001), -1);
    CHECK.due("leaf(3, 1)", x.leaf(3, 1), -2);
    CHECK.due("leaf(-1, 1)", x.leaf(-1, 1), -2);
    CHECK.due("none as yet", x.count(3), 0);
    CHECK.due("leaf(1, 10000)", x.leaf(1, 10_000), 1);
    CHECK.due("leaf(1, 1)", x.leaf(1, 1), -3);
    CHECK.due("a wrong area of a leaf", x.leaf(1, 0), -1);
    x.melt(0, 2);
    CHECK.due("one that is gone", x.leaf(2, 1), -2);
    CHECK.due("leaf(0, 1)", x.leaf(0, 1), 2);
    CHECK.due("leaves", x.count(3), 2);
    CHECK.due("a leaf is a piece", x.weight(0), 20);
    CHECK.due("a leaf has grains", x.from(0, 2), 10);
  }

  private static void flatness() {
    GoldLeaves x = new GoldLeaves();
    CHECK.due("flatter without pieces", x.flatter(0, 0), -2);
    x.bar(3, 1000, 0);
    x.bar(2, 1000, 0);
    x.bar(6, 1000, 0);
    x.bar(1, 1000, 0);
    x.bar(1, 1000, 0);
    x.leaf(0, 10);
    x.leaf(1, 7);
    x.leaf(2, 20);
    // 10 / 3 and 7 / 2 are alike when cut, but not alike.
    CHECK.due("flatter(0, 1)", x.flatter(0, 1), -1);
    CHECK.due("flatter(1, 0)", x.flatter(1, 0), 1);
    CHECK.due("flatter(0, 2)", x.flatter(0, 2), 0);
    CHECK.due("flatter(0, 0)", x.flatter(0, 0), 0);
    CHECK.due("flatter(0, 3), no leaf", x.flatter(0, 3), -2);
    CHECK.due("flatter(3, 0), no leaf", x.flatter(3, 0), -2);
    CHECK.due("flatter(3, 3), no leaf", x.flatter(3, 3), -2);
    CHECK.due("flatter(0, 5)", x.flatter(0, 5), -2);
    CHECK.due("flatter(-1, 0)", x.flatter(-1, 0), -2);
    x.melt(3, 4);
    CHECK.due("flatter(4, 0), gone", x.flatter(4, 0), -2);
    x = new GoldLeaves();
    x.bar(1_000_000, 1000, 0);
    x.bar(1_000_000, 1000, 0);
    x.bar(999_999, 1000, 0);
    x.melt(0, 1);
    x.leaf(0, 10_000);
    x.leaf(2, 10_000);
    CHECK.due("more than an int holds", x.flatter(2, 0), 1);
    CHECK.due("the other way round", x.flatter(0, 2), -1);
  }

  private static void binding() {
    GoldLeaves x = new GoldLeaves();
    CHECK.due("bind(1) without leaves", x.bind(1), 0);
    CHECK.due("bind(0)", x.bind(0), -1);
    CHECK.due("bind(51)", x.bind(51), -1);
    CHECK.due("bind(MIN)", x.bind(Integer.MIN_VALUE), -1);
    x.bar(100, 1000, 0);
    for (int i = 0; i < 7; i++) {
      x.cut(0, 1);
    }
    for (int piece : new int[] {6, 2, 4, 1, 7}) {
      x.leaf(piece, 9);
    }
    CHECK.due("bind(6) of 5", x.bind(6), 0);
    CHECK.due("bind(50) of 5", x.bind(50), 0);
    CHECK.due("bind(2) of 5", x.bind(2), 2);
    dueBooks(x, -1, 0, 0, -1, 1, -1, 1, -1);
    x.leaf(3, 9);
    CHECK.due("bind(3) of 2", x.bind(3), 0);
    CHECK.due("bind(2) of 2", x.bind(2), 1);
    dueBooks(x, -1, 0, 0, 2, 1, -1, 1, 2);
    CHECK.due("none is left", x.bind(1), 0);
    CHECK.due("books", x.count(4), 3);
    CHECK.due("leaves in books are leaves", x.count(3), 6);
    CHECK.due("book(8)", x.book(8), -1);
    CHECK.due("book(-1)", x.book(-1), -1);
    CHECK.due("book(MAX)", x.book(Integer.MAX_VALUE), -1);
    x.melt(0, 5);
    CHECK.due("book of a gone piece", x.book(5), -1);
  }

  private static void dueBooks(GoldLeaves x, int... books) {
    for (int i = 0; i < books.length; i++) {
      CHECK.due("book(" + i + ")", x.book(i), books[i]);
    }
  }

  private static void bindingManyBooks() {
    GoldLeaves x = new GoldLeaves();
    x.bar(1000, 1000, 0);
    for (int i = 1; i < 120; i++) {
      x.cut(0, 1);
    }
    for (int i = 0; i < 120; i++) {
      CHECK.due("leaf " + i, x.leaf(i, 1), i + 1);
    }
    CHECK.due("bind(50) of 120", x.bind(50), 2);
    CHECK.due("book(49)", x.book(49), 0);
    CHECK.due("book(50)", x.book(50), 1);
    CHECK.due("book(99)", x.book(99), 1);
    CHECK.due("book(100)", x.book(100), -1);
    CHECK.due("bind(1) of 20", x.bind(1), 20);
    CHECK.due("book(119)", x.book(119), 21);
    CHECK.due("books", x.count(4), 22);
  }

  private static void dueSurface(int a, int b, int s, int o, long want) {
    String call = "surface(" + a + ", " + b + ", " + s + ", " + o + ")";
    CHECK.due(call, new GoldLeaves().surface(a, b, s, o), want);
  }

  private static void surfaces() {
    dueSurface(1, 1, 1, 0, 1);
    dueSurface(1, 1, 200, 199, 1);
    dueSurface(80, 80, 80, 79, 1);
    dueSurface(81, 80, 80, 79, 2);
    dueSurface(80, 81, 80, 79, 2);
    dueSurface(100, 1, 80, 5, 2);
    dueSurface(155, 1, 80, 5, 2);
    dueSurface(156, 1, 80, 5, 3);
    dueSurface(156, 231, 80, 5, 12);
    dueSurface(10_000, 10_000, 1, 0, 100_000_000L);
    dueSurface(10_000, 10_000, 200, 199, 9801L * 9801L);
    dueSurface(10_000, 9_999, 200, 0, 2500);
    dueSurface(10_000, 1, 3, 1, 5000);
  }

  private static void surfaceBounds() {
    dueSurface(0, 1, 1, 0, -1);
    dueSurface(1, 0, 1, 0, -1);
    dueSurface(-5, 5, 5, 0, -1);
    dueSurface(10_001, 1, 1, 0, -1);
    dueSurface(1, 10_001, 1, 0, -1);
    dueSurface(1, 1, 0, 0, -1);
    dueSurface(1, 1, 0, -1, -1);
    dueSurface(1, 1, 201, 0, -1);
    dueSurface(1, 1, -3, -4, -1);
    dueSurface(1, 1, 5, -1, -1);
    dueSurface(1, 1, 5, 5, -1);
    dueSurface(9, 9, 5, 6, -1);
    dueSurface(9, 9, Integer.MIN_VALUE, Integer.MAX_VALUE, -1);
    dueSurface(Integer.MAX_VALUE, 9, 5, 0, -1);
  }
}
