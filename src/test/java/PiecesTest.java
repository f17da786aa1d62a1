/** Promises 1 to 7: a new object, bar, cut, melt, weight, from, part. */
public final class PiecesTest {
  private static final Check CHECK = new Check("PiecesTest");

  public static void main(String[] args) {
    newObject();
    bars();
    barLimits();
    cutShares();
    cutTies();
    cutRefusals();
    noRoomForPieces();
    melting();
    asking();
    heavyPieces();
    CHECK.finish();
  }

  private static void newObject() {
    GoldLeaves x = new GoldLeaves();
    for (int what = 0; what <= 8; what++) {
      CHECK.due("count(" + what + ") at first", x.count(what), 0);
    }
    CHECK.due("weight(0) at first", x.weight(0), -1);
    CHECK.due("age(0) at first", x.age(0), -1);
    CHECK.due("colour(0) at first", x.colour(0), -1);
    CHECK.due("fault() at first", x.fault(), -1);
    CHECK.due("status() at first", x.status(), 0);
    x.bar(5, 1000, 0);
    CHECK.due("a new object has nothing of another one", new GoldLeaves().count(0), 0);
  }

  private static void bars() {
    GoldLeaves x = new GoldLeaves();
    CHECK.due("bar(0, ..)", x.bar(0, 1000, 0), -1);
    CHECK.due("bar(-1, ..)", x.bar(-1, 1000, 0), -1);
    CHECK.due("bar(1000001, ..)", x.bar(1_000_001, 1000, 0), -1);
    CHECK.due("gold below 0", x.bar(1, -1, 0), -1);
    CHECK.due("gold above 1000", x.bar(1, 1001, 0), -1);
    CHECK.due("silver below 0", x.bar(1, 0, -1), -1);
    CHECK.due("silver above 1000", x.bar(1, 0, 1001), -1);
    CHECK.due("together above 1000", x.bar(1, 500, 501), -1);
    CHECK.due("negative gold with too much silver", x.bar(1, -1, 1001), -1);
    CHECK.due("a sum that wraps", x.bar(1, Integer.MAX_VALUE, Integer.MAX_VALUE), -1);
    CHECK.due("a sum that wraps back", x.bar(1, Integer.MIN_VALUE, Integer.MIN_VALUE), -1);
    CHECK.due("no bar was made", x.count(0), 0);
    CHECK.due("bar(1, 0, 0)", x.bar(1, 0, 0), 0);
    CHECK.due("bar(1000000, 1000, 0)", x.bar(1_000_000, 1000, 0), 1);
    CHECK.due("bar(7, 0, 1000)", x.bar(7, 0, 1000), 2);
    CHECK.due("copper of bar 0", x.part(0, 2), 1000);
    CHECK.due("gold of bar 1", x.part(1, 0), 1_000_000_000L);
    CHECK.due("silver of bar 2", x.part(2, 1), 7000);
    CHECK.due("a cut between bars", x.cut(1, 3), 3);
    CHECK.due("a bar is numbered as a piece", x.bar(9, 1, 2), 4);
    CHECK.due("it is bar 3", x.from(4, 3), 9);
  }

  private static void barLimits() {
    GoldLeaves x = new GoldLeaves();
    for (int i = 0; i < 10; i++) {
      CHECK.due("bar " + i, x.bar(100, 500, 100), i);
    }
    CHECK.due("an eleventh bar", x.bar(100, 500, 100), -5);
    CHECK.due("a wrong eleventh bar", x.bar(0, 500, 100), -1);
    CHECK.due("bars", x.count(0), 10);
    CHECK.due("pieces", x.count(2), 10);
    x.melt(0, 1);
    CHECK.due("melting makes no room for bars", x.bar(1, 1, 1), -5);
  }

  private static GoldLeaves threeInOne(int first, int second, int third) {
    GoldLeaves x = new GoldLeaves();
    x.bar(first, 1000, 0);
    x.bar(second, 0, 1000);
    x.bar(third, 0, 0);
    x.melt(0, 1);
    x.melt(0, 2);
    return x;
  }

  private static void dueGrains(GoldLeaves x, int piece, int first, int second, int third) {
    CHECK.due("from(" + piece + ", 0)", x.from(piece, 0), first);
    CHECK.due("from(" + piece + ", 1)", x.from(piece, 1), second);
    CHECK.due("from(" + piece + ", 2)", x.from(piece, 2), third);
    CHECK.due("weight(" + piece + ")", x.weight(piece), first + second + third);
  }

  private static void cutShares() {
    // Of 6, 3 and 1 of 10 grains 4: 2.4, 1.2 and 0.4; one is left, rests 4, 2, 4.
    GoldLeaves x = threeInOne(6, 3, 1);
    CHECK.due("cut(0, 4)", x.cut(0, 4), 3);
    dueGrains(x, 3, 3, 1, 0);
    dueGrains(x, 0, 3, 2, 1);
    // Of 2, 3 and 5 of 10 grains 7: 1.4, 2.1 and 3.5; the third has the greatest rest.
    x = threeInOne(2, 3, 5);
    CHECK.due("cut(0, 7)", x.cut(0, 7), 3);
    dueGrains(x, 3, 1, 2, 4);
    dueGrains(x, 0, 1, 1, 1);
    // Of 8, 8 and 4 of 20 grains 7: 2.8, 2.8, 1.4; two are left for the first two.
    x = threeInOne(8, 8, 4);
    CHECK.due("cut(0, 7) of 20", x.cut(0, 7), 3);
    dueGrains(x, 3, 3, 3, 1);
    dueGrains(x, 0, 5, 5, 3);
    x = threeInOne(10, 20, 30);
    CHECK.due("a cut without rests", x.cut(0, 6), 3);
    dueGrains(x, 3, 1, 2, 3);
    CHECK.due("all but one grain", x.cut(3, 5), 4);
    dueGrains(x, 4, 1, 2, 2);
    dueGrains(x, 3, 0, 0, 1);
  }

  private static void cutTies() {
    GoldLeaves x = threeInOne(1, 1, 1);
    CHECK.due("cut(0, 1)", x.cut(0, 1), 3);
    dueGrains(x, 3, 1, 0, 0);
    CHECK.due("cut(0, 1) again", x.cut(0, 1), 4);
    dueGrains(x, 4, 0, 1, 0);
    dueGrains(x, 0, 0, 0, 1);
    x = threeInOne(1, 1, 1);
    CHECK.due("cut(0, 2)", x.cut(0, 2), 3);
    dueGrains(x, 3, 1, 1, 0);
  }

  private static void cutRefusals() {
    GoldLeaves x = new GoldLeaves();
    CHECK.due("cut without pieces", x.cut(0, 1), -2);
    CHECK.due("cut of 0 without pieces", x.cut(0, 0), -1);
    x.bar(10, 1000, 0);
    CHECK.due("cut(0, 0)", x.cut(0, 0), -1);
    CHECK.due("cut(0, MIN)", x.cut(0, Integer.MIN_VALUE), -1);
    CHECK.due("cut(-1, 1)", x.cut(-1, 1), -2);
    CHECK.due("cut(1, 1)", x.cut(1, 1), -2);
    CHECK.due("cut(120, 1)", x.cut(120, 1), -2);
    CHECK.due("cut(MAX, 1)", x.cut(Integer.MAX_VALUE, 1), -2);
    CHECK.due("cut(MIN, 1)", x.cut(Integer.MIN_VALUE, 1), -2);
    CHECK.due("cut(0, 10)", x.cut(0, 10), -3);
    CHECK.due("cut(0, MAX)", x.cut(0, Integer.MAX_VALUE), -3);
    CHECK.due("cut(0, 9)", x.cut(0, 9), 1);
    CHECK.due("one grain is left", x.weight(0), 1);
    CHECK.due("one grain can't be cut", x.cut(0, 1), -3);
    x.leaf(1, 5);
    CHECK.due("a leaf is not cut", x.cut(1, 1), -3);
    x.bar(5, 1, 1);
    x.melt(0, 2);
    CHECK.due("one that is gone is not cut", x.cut(2, 1), -2);
    CHECK.due("nothing was made", x.count(2), 3);
  }

  private static void noRoomForPieces() {
    GoldLeaves x = new GoldLeaves();
    x.bar(1000, 1000, 0);
    for (int i = 1; i < 120; i++) {
      CHECK.due("cut " + i, x.cut(0, 1), i);
    }
    CHECK.due("piece 120", x.cut(0, 1), -5);
    CHECK.due("too much is ahead of no room", x.cut(0, 1000), -3);
    CHECK.due("no such piece is ahead of no room", x.cut(120, 1), -2);
    CHECK.due("a bar without room for a piece", x.bar(1, 1, 1), -5);
    CHECK.due("melt(0, 1)", x.melt(0, 1), 882);
    CHECK.due("a gone piece leaves no room", x.cut(0, 1), -5);
    CHECK.due("nor for a bar", x.bar(1, 1, 1), -5);
    CHECK.due("bars", x.count(0), 1);
    CHECK.due("pieces in all", x.count(2), 120);
    CHECK.due("pieces that are not gone", x.count(1), 119);
  }

  private static void melting() {
    GoldLeaves x = new GoldLeaves();
    CHECK.due("melt without pieces", x.melt(0, 0), -2);
    x.bar(10, 1000, 0);
    x.bar(20, 0, 1000);
    x.bar(30, 0, 0);
    x.bar(40, 1, 1);
    CHECK.due("melt(0, 4)", x.melt(0, 4), -2);
    CHECK.due("melt(4, 0)", x.melt(4, 0), -2);
    CHECK.due("melt(-1, 0)", x.melt(-1, 0), -2);
    CHECK.due("melt(0, MIN)", x.melt(0, Integer.MIN_VALUE), -2);
    CHECK.due("melt(0, 0)", x.melt(0, 0), -3);
    CHECK.due("melt(1, 0)", x.melt(1, 0), 30);
    CHECK.due("piece 0 is gone", x.weight(0), -1);
    CHECK.due("melt(0, 0) of one that is gone", x.melt(0, 0), -2);
    CHECK.due("melt into one that is gone", x.melt(0, 1), -2);
    dueGrains(x, 1, 10, 20, 0);
    x.leaf(2, 1);
    CHECK.due("a leaf is not melted", x.melt(1, 2), -3);
    CHECK.due("nothing is melted into a leaf", x.melt(2, 1), -3);
    CHECK.due("a leaf into itself", x.melt(2, 2), -3);
    CHECK.due("a leaf into one that is gone", x.melt(0, 2), -2);
    CHECK.due("melt(3, 1)", x.melt(3, 1), 70);
    CHECK.due("from(3, 1)", x.from(3, 1), 20);
    CHECK.due("from(3, 3)", x.from(3, 3), 40);
  }

  private static void asking() {
    GoldLeaves x = new GoldLeaves();
    x.bar(10, 500, 300);
    x.bar(4, 100, 200);
    CHECK.due("weight(-1)", x.weight(-1), -1);
    CHECK.due("weight(2)", x.weight(2), -1);
    CHECK.due("weight(MIN)", x.weight(Integer.MIN_VALUE), -1);
    CHECK.due("from(0, 1)", x.from(0, 1), 0);
    CHECK.due("from(0, 2), of no bar", x.from(0, 2), -1);
    CHECK.due("from(0, -1)", x.from(0, -1), -1);
    CHECK.due("from(0, MAX)", x.from(0, Integer.MAX_VALUE), -1);
    CHECK.due("from(2, 0)", x.from(2, 0), -1);
    CHECK.due("from(-1, 0)", x.from(-1, 0), -1);
    CHECK.due("part(0, -1)", x.part(0, -1), -1);
    CHECK.due("part(0, 3)", x.part(0, 3), -1);
    CHECK.due("part(2, 0)", x.part(2, 0), -1);
    CHECK.due("part(0, 0)", x.part(0, 0), 5000);
    CHECK.due("part(0, 1)", x.part(0, 1), 3000);
    CHECK.due("part(0, 2)", x.part(0, 2), 2000);
    x.melt(0, 1);
    CHECK.due("part(0, 0) of both", x.part(0, 0), 5400);
    CHECK.due("part(0, 1) of both", x.part(0, 1), 3800);
    CHECK.due("part(0, 2) of both", x.part(0, 2), 4800);
    CHECK.due("weight of a gone one", x.weight(1), -1);
    CHECK.due("from of a gone one", x.from(1, 1), -1);
    CHECK.due("part of a gone one", x.part(1, 0), -1);
  }

  private static void heavyPieces() {
    GoldLeaves x = new GoldLeaves();
    for (int i = 0; i < 10; i++) {
      x.bar(1_000_000, 1000, 0);
    }
    for (int i = 1; i < 10; i++) {
      CHECK.due("melt(0, " + i + ")", x.melt(0, i), (i + 1) * 1_000_000);
    }
    CHECK.due("more gold than an int holds", x.part(0, 0), 10_000_000_000L);
    CHECK.due("a great cut", x.cut(0, 9_999_993), 10);
    for (int bar = 0; bar < 10; bar++) {
      CHECK.due("great share of bar " + bar, x.from(10, bar), bar < 3 ? 1_000_000 : 999_999);
    }
    CHECK.due("grains of all pieces", x.count(7), 10_000_000);
  }
}
