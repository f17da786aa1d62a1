/** Terms III (LEAVES, BOOKS, SURFACES) and promises 18 to 22, sentence by sentence. */
public final class EdgesOfLeavesTest {
  private static final Check CHECK = new Check("EdgesOfLeavesTest");
  private static final int MIN = Check.MIN;
  private static final int MAX = Check.MAX;

  public static void main(String[] args) {
    CHECK.sentence("of an AREA (1 .. 10,000 square lines)", EdgesOfLeavesTest::areas);
    CHECK.sentence("A PIECE becomes a LEAF: how many LEAVES there are.", EdgesOfLeavesTest::howManyLeaves);
    CHECK.sentence("-3 it is one", EdgesOfLeavesTest::leafAlready);
    CHECK.sentence("it is neither CUT nor MELTED any more", EdgesOfLeavesTest::neitherCutNorMelted);
    CHECK.sentence("FLAT: its AREA through its WEIGHT.", EdgesOfLeavesTest::flatness);
    CHECK.sentence("1, alike 0, -1", EdgesOfLeavesTest::alikeLeaves);
    CHECK.sentence("-2 without", EdgesOfLeavesTest::flatterWithout);
    CHECK.sentence("BOOKS of n LEAVES (1 .. 50)", EdgesOfLeavesTest::leavesOfBooks);
    CHECK.sentence("are bound as long as there are so many", EdgesOfLeavesTest::asLongAsThereAreSoMany);
    CHECK.sentence("LEAVES that are in no BOOK, in order", EdgesOfLeavesTest::looseLeavesInOrder);
    CHECK.sentence("BOOK of a LEAF, from 0 on as they were bound; NONE.", EdgesOfLeavesTest::bookNumbers);
    CHECK.sentence("A SURFACE of a times b lines (1 .. 10,000 each)", EdgesOfLeavesTest::surfaceSides);
    CHECK.sentence("LEAVES of s lines' side (1 .. 200)", EdgesOfLeavesTest::leafSides);
    CHECK.sentence("lie over one another by o lines (0 .. s - 1)", EdgesOfLeavesTest::overlaps);
    CHECK.sentence("1, if a is not above s", EdgesOfLeavesTest::oneLeaf);
    CHECK.sentence("else 1 and (a - s) / (s - o), rounded up", EdgesOfLeavesTest::roundedUp);
    CHECK.sentence("Both sides' numbers times one another.", EdgesOfLeavesTest::bothSides);
    CHECK.finish();
  }

  private static void areas() {
    CHECK.edges("leaf(0, n)", n -> Houses.bars(1).leaf(0, n),
        MIN, -1, -1, -1, 0, -1, 1, 1, 2, 1, 9_999, 1, 10_000, 1, 10_001, -1, MAX, -1);
    GoldLeaves x = Houses.bars(5);
    x.leaf(0, 0);
    x.leaf(0, 10_001);
    CHECK.due("none was made", x.count(3), 0);
    CHECK.due("it may be cut", x.cut(0, 1), 1);
  }

  private static void howManyLeaves() {
    GoldLeaves x = Houses.pieces(120);
    CHECK.due("the first", x.leaf(119, 1), 1);
    for (int i = 0; i < 118; i++) {
      x.leaf(i, 1);
    }
    CHECK.due("the last", x.leaf(118, 1), 120);
    CHECK.due("no such piece", x.leaf(120, 1), -2);
    CHECK.due("leaves", x.count(3), 120);
    CHECK.due("the lightest one", Houses.leaves(2).weight(1), 1);
  }

  private static void leafAlready() {
    GoldLeaves x = Houses.bars(5, 5, 5);
    CHECK.due("leaf(0, 7)", x.leaf(0, 7), 1);
    CHECK.due("leaf(0, 7) again", x.leaf(0, 7), -3);
    CHECK.due("leaf(0, 8)", x.leaf(0, 8), -3);
    CHECK.due("leaves", x.count(3), 1);
    x.leaf(1, 7);
    CHECK.due("the area is as it was", x.flatter(0, 1), 0);
    x.bind(1);
    CHECK.due("in a book", x.leaf(0, 7), -3);
    CHECK.due("leaf(2, 7)", x.leaf(2, 7), 3);
  }

  private static void neitherCutNorMelted() {
    GoldLeaves x = Houses.bars(5, 5, 5);
    x.leaf(0, 7);
    CHECK.due("cut(0, 1)", x.cut(0, 1), -3);
    CHECK.due("cut(0, 4)", x.cut(0, 4), -3);
    CHECK.due("melt(1, 0)", x.melt(1, 0), -3);
    CHECK.due("melt(0, 1)", x.melt(0, 1), -3);
    x.bind(1);
    CHECK.due("cut in a book", x.cut(0, 1), -3);
    CHECK.due("melt in a book", x.melt(1, 0), -3);
    CHECK.due("weight(0)", x.weight(0), 5);
    CHECK.due("weight(1)", x.weight(1), 5);
    CHECK.due("others are cut", x.cut(1, 1), 3);
    CHECK.due("others are melted", x.melt(1, 2), 9);
  }

  private static int flatter(int areaOne, int grainsOne, int areaTwo, int grainsTwo) {
    GoldLeaves x = Houses.bars(grainsOne, grainsTwo);
    x.leaf(0, areaOne);
    x.leaf(1, areaTwo);
    int answer = x.flatter(0, 1);
    CHECK.due("the other way round", x.flatter(1, 0), -answer);
    return answer;
  }

  private static void flatness() {
    CHECK.due("more area", flatter(6, 5, 5, 5), 1);
    CHECK.due("less area", flatter(4, 5, 5, 5), -1);
    CHECK.due("less weight", flatter(5, 4, 5, 5), 1);
    CHECK.due("more weight", flatter(5, 6, 5, 5), -1);
    CHECK.due("10 / 3 and 7 / 2, alike when cut", flatter(10, 3, 7, 2), -1);
    CHECK.due("both below 1", flatter(1, 3, 1, 2), -1);
    CHECK.due("the flattest and the least flat", flatter(10_000, 1, 1, 1_000_000), 1);
    CHECK.due("the nearest ones", flatter(10_000, 1_000_000, 9_999, 999_999), 1);
    CHECK.due("products that would wrap", flatter(10_000, 429_497, 10_000, 1), -1);
    CHECK.due("10,000,000,000 and a little less", flatter(10_000, 999_999, 10_000, 1_000_000), 1);
  }

  private static void alikeLeaves() {
    CHECK.due("the same numbers", flatter(5, 5, 5, 5), 0);
    CHECK.due("twice as much of both", flatter(5, 4, 10, 8), 0);
    CHECK.due("the greatest", flatter(10_000, 1_000_000, 10_000, 1_000_000), 0);
    CHECK.due("the least", flatter(1, 1, 1, 1), 0);
    CHECK.due("a great one and a small one", flatter(10_000, 1_000_000, 1, 100), 0);
    CHECK.due("a leaf and itself", Houses.leaves(1).flatter(0, 0), 0);
  }

  /** PIECES 0 and 1 are LEAVES, 2 is none, 3 is gone. */
  private static GoldLeaves twoLeaves() {
    GoldLeaves x = Houses.bars(5, 5, 5, 5);
    x.leaf(0, 1);
    x.leaf(1, 1);
    x.melt(2, 3);
    return x;
  }

  private static void flatterWithout() {
    CHECK.edges("flatter(n, 0)", n -> twoLeaves().flatter(n, 0),
        MIN, -2, -1, -2, 0, 0, 1, 0, 2, -2, 3, -2, 4, -2, 119, -2, 120, -2, MAX, -2);
    CHECK.edges("flatter(0, n)", n -> twoLeaves().flatter(0, n),
        MIN, -2, -1, -2, 0, 0, 1, 0, 2, -2, 3, -2, 4, -2, 119, -2, 120, -2, MAX, -2);
    CHECK.edges("flatter(n, n)", n -> twoLeaves().flatter(n, n), -1, -2, 1, 0, 2, -2, 3, -2, 4, -2);
    CHECK.due("without pieces", new GoldLeaves().flatter(0, 0), -2);
  }

  private static void leavesOfBooks() {
    CHECK.edges("bind(n) of 50", n -> Houses.leaves(50).bind(n),
        MIN, -1, -1, -1, 0, -1, 1, 50, 2, 25, 49, 1, 50, 1, 51, -1, MAX, -1);
    CHECK.edges("bind(n) of none", n -> new GoldLeaves().bind(n), -1, -1, 0, -1, 1, 0, 50, 0, 51, -1);
    CHECK.edges("bind(n) of 60", n -> Houses.leaves(60).bind(n), 50, 1, 51, -1, 60, -1);
  }

  private static void asLongAsThereAreSoMany() {
    CHECK.edges("bind(5) of n", n -> Houses.leaves(n).bind(5), 4, 0, 5, 1, 6, 1, 9, 1, 10, 2, 11, 2);
    CHECK.edges("bind(50) of n", n -> Houses.leaves(n).bind(50), 49, 0, 50, 1, 99, 1, 100, 2, 120, 2);
    CHECK.edges("bind(1) of n", n -> Houses.leaves(n).bind(1), 1, 1, 2, 2, 120, 120);
    GoldLeaves x = Houses.leaves(7);
    CHECK.due("bind(5)", x.bind(5), 1);
    CHECK.due("bind(3) of two", x.bind(3), 0);
    CHECK.due("book(5)", x.book(5), -1);
    CHECK.due("bind(2) of two", x.bind(2), 1);
    CHECK.due("bind(1) of none", x.bind(1), 0);
    CHECK.due("books", x.count(4), 2);
    CHECK.due("a piece that is no leaf", Houses.pieces(5).bind(1), 0);
  }

  private static void looseLeavesInOrder() {
    GoldLeaves x = Houses.pieces(6);
    x.leaf(5, 1);
    x.leaf(1, 1);
    x.leaf(3, 1);
    CHECK.due("bind(2) of three", x.bind(2), 1);
    dueBooks(x, -1, 0, -1, 0, -1, -1);
    x.leaf(0, 1);
    CHECK.due("bind(2) of two", x.bind(2), 1);
    dueBooks(x, 1, 0, -1, 0, -1, 1);
    x.leaf(4, 1);
    x.leaf(2, 1);
    CHECK.due("bind(1) of two", x.bind(1), 2);
    dueBooks(x, 1, 0, 2, 0, 3, 1);
  }

  private static void dueBooks(GoldLeaves x, int... books) {
    for (int i = 0; i < books.length; i++) {
      CHECK.due("book(" + i + ")", x.book(i), books[i]);
    }
  }

  private static int bookOf(int piece) {
    GoldLeaves x = twoLeaves();
    x.bind(1);
    return x.book(piece);
  }

  private static int bookOfMany(int piece) {
    GoldLeaves x = Houses.leaves(120);
    x.bind(50);
    x.bind(20);
    return x.book(piece);
  }

  private static void bookNumbers() {
    CHECK.edges("book(n)", EdgesOfLeavesTest::bookOf,
        MIN, -1, -1, -1, 0, 0, 1, 1, 2, -1, 3, -1, 4, -1, 119, -1, 120, -1, MAX, -1);
    CHECK.edges("book(n) of 120", EdgesOfLeavesTest::bookOfMany,
        0, 0, 49, 0, 50, 1, 99, 1, 100, 2, 119, 2, 120, -1);
    CHECK.due("a loose leaf", Houses.leaves(1).book(0), -1);
    CHECK.due("without pieces", new GoldLeaves().book(0), -1);
    GoldLeaves x = Houses.leaves(120);
    x.bind(1);
    CHECK.due("the last book", x.book(119), 119);
    CHECK.due("books", x.count(4), 120);
  }

  private static void surfaceSides() {
    CHECK.edges("surface(n, 1, 1, 0)", n -> new GoldLeaves().surface(n, 1, 1, 0),
        MIN, -1, -1, -1, 0, -1, 1, 1, 9_999, 9_999, 10_000, 10_000, 10_001, -1, MAX, -1);
    CHECK.edges("surface(1, n, 1, 0)", n -> new GoldLeaves().surface(1, n, 1, 0),
        MIN, -1, -1, -1, 0, -1, 1, 1, 9_999, 9_999, 10_000, 10_000, 10_001, -1, MAX, -1);
  }

  private static void leafSides() {
    CHECK.edges("surface(1, 1, n, 0)", n -> new GoldLeaves().surface(1, 1, n, 0),
        MIN, -1, -1, -1, 0, -1, 1, 1, 199, 1, 200, 1, 201, -1, MAX, -1);
    CHECK.edges("surface(400, 1, n, 0)", n -> new GoldLeaves().surface(400, 1, n, 0),
        0, -1, 1, 400, 199, 3, 200, 2, 201, -1);
    // s - 1 wraps for the least int: no o is taken there either.
    CHECK.edges("surface(1, 1, MIN, n)", n -> new GoldLeaves().surface(1, 1, MIN, n),
        MIN, -1, -1, -1, 0, -1, MAX, -1);
  }

  private static void overlaps() {
    CHECK.edges("surface(1, 1, 5, n)", n -> new GoldLeaves().surface(1, 1, 5, n),
        MIN, -1, -1, -1, 0, 1, 4, 1, 5, -1, 6, -1, MAX, -1);
    CHECK.edges("surface(1, 1, 1, n)", n -> new GoldLeaves().surface(1, 1, 1, n), -1, -1, 0, 1, 1, -1);
    CHECK.edges("surface(1, 1, 200, n)", n -> new GoldLeaves().surface(1, 1, 200, n),
        -1, -1, 0, 1, 199, 1, 200, -1);
    CHECK.edges("surface(9, 9, 5, n)", n -> new GoldLeaves().surface(9, 9, 5, n),
        -1, -1, 0, 4, 3, 9, 4, 25, 5, -1);
  }

  private static void oneLeaf() {
    CHECK.edges("surface(n, 1, 80, 5)", n -> new GoldLeaves().surface(n, 1, 80, 5), 1, 1, 79, 1, 80, 1, 81, 2);
    CHECK.edges("surface(1, n, 80, 79)", n -> new GoldLeaves().surface(1, n, 80, 79), 79, 1, 80, 1, 81, 2, 82, 3);
    CHECK.edges("surface(n, n, 200, 199)", n -> new GoldLeaves().surface(n, n, 200, 199), 200, 1, 201, 4);
  }

  private static void roundedUp() {
    CHECK.edges("surface(n, 1, 80, 5)", n -> new GoldLeaves().surface(n, 1, 80, 5),
        81, 2, 154, 2, 155, 2, 156, 3, 230, 3, 231, 4);
    CHECK.edges("surface(n, 1, 3, 1)", n -> new GoldLeaves().surface(n, 1, 3, 1), 3, 1, 4, 2, 5, 2, 6, 3, 7, 3, 8, 4);
    CHECK.edges("surface(1, n, 1, 0)", n -> new GoldLeaves().surface(1, n, 1, 0), 1, 1, 2, 2, 3, 3);
    CHECK.due("surface(10000, 1, 200, 199)", new GoldLeaves().surface(10_000, 1, 200, 199), 9_801);
  }

  private static void bothSides() {
    GoldLeaves x = new GoldLeaves();
    CHECK.due("2 times 3", x.surface(81, 161, 80, 0), 6);
    CHECK.due("3 times 2", x.surface(161, 81, 80, 0), 6);
    CHECK.due("1 times 3", x.surface(80, 161, 80, 0), 3);
    CHECK.due("the most", x.surface(10_000, 10_000, 1, 0), 100_000_000);
    CHECK.due("the most of the greatest leaves", x.surface(10_000, 10_000, 200, 199), 96_059_601);
  }
}
