/** Terms I and promises 1 to 7, sentence by sentence: the last number that is taken, the first that is not. */
public final class EdgesOfPiecesTest {
  private static final Check CHECK = new Check("EdgesOfPiecesTest");
  private static final int MIN = Check.MIN;
  private static final int MAX = Check.MAX;

  public static void main(String[] args) {
    CHECK.sentence("No BARS, SKINS, COLOURS.", EdgesOfPiecesTest::nothingAtFirst);
    CHECK.sentence("BARS 0 .. 9 (10 at most)", EdgesOfPiecesTest::tenBars);
    CHECK.sentence("of gold, silver, copper in thousandths", EdgesOfPiecesTest::thousandths);
    CHECK.sentence("(together 1000)", EdgesOfPiecesTest::together);
    CHECK.sentence("PIECES 0 .. 119 (120 in all", EdgesOfPiecesTest::piecesInAll);
    CHECK.sentence("also those that are gone", EdgesOfPiecesTest::gonePiecesKeepTheirPlace);
    CHECK.sentence("-5 (BARS, PIECES)", EdgesOfPiecesTest::barWithoutRoomForItsPiece);
    CHECK.sentence("(all together its WEIGHT)", EdgesOfPiecesTest::allTogetherTheWeight);
    CHECK.sentence("A BAR is a PIECE at first (1 .. 1,000,000 grains).", EdgesOfPiecesTest::grainsOfBars);
    CHECK.sentence("-1 (n below 1)", EdgesOfPiecesTest::cutOfNothing);
    CHECK.sentence("a new one of n grains (below w)", EdgesOfPiecesTest::cutBelowWeight);
    CHECK.sentence("the new one gets g n / w, cut", EdgesOfPiecesTest::shares);
    CHECK.sentence("of what is left of n one each", EdgesOfPiecesTest::oneEach);
    CHECK.sentence("those BARS with the greatest rests", EdgesOfPiecesTest::greatestRests);
    CHECK.sentence("of alike ones the lower", EdgesOfPiecesTest::alikeRests);
    CHECK.sentence("the old one keeps the others", EdgesOfPiecesTest::oldKeepsTheOthers);
    CHECK.sentence("a PIECE comes into another one, grain by grain", EdgesOfPiecesTest::meltingGrainByGrain);
    CHECK.sentence("and is gone", EdgesOfPiecesTest::meltedIsGone);
    CHECK.sentence("-2 there is no such PIECE (or it is gone)", EdgesOfPiecesTest::noSuchPiece);
    CHECK.sentence("-3 it can't be (not so heavy, a leaf; itself)", EdgesOfPiecesTest::cannotBe);
    CHECK.sentence("WEIGHT of a PIECE; NONE (gone, too).", EdgesOfPiecesTest::weights);
    CHECK.sentence("Grains of a PIECE from a BAR; NONE.", EdgesOfPiecesTest::grainsFrom);
    CHECK.sentence("Part of a metal (0 gold, 1 silver, 2 copper) of a PIECE", EdgesOfPiecesTest::metals);
    CHECK.sentence("the sum over BARS of grains times thousandths", EdgesOfPiecesTest::greatestParts);
    CHECK.finish();
  }

  private static void nothingAtFirst() {
    CHECK.edges("count(n)", n -> new GoldLeaves().count(n), 0, 0, 1, 0, 2, 0, 3, 0, 4, 0, 5, 0, 6, 0, 7, 0, 8, 0);
    GoldLeaves x = new GoldLeaves();
    CHECK.due("weight(0)", x.weight(0), -1);
    CHECK.due("from(0, 0)", x.from(0, 0), -1);
    CHECK.due("part(0, 0)", x.part(0, 0), -1);
    CHECK.due("age(0)", x.age(0), -1);
    CHECK.due("dry(0, 0)", x.dry(0, 0), -2);
    CHECK.due("bar", x.bar(1, 1000, 0), 0);
    CHECK.due("colour(0)", x.colour(0), -1);
    CHECK.due("skin", x.skin(0), 0);
  }

  private static void tenBars() {
    GoldLeaves x = new GoldLeaves();
    for (int i = 0; i < 10; i++) {
      CHECK.due("bar " + i, x.bar(7 + i, 1000, 0), i);
    }
    CHECK.due("bar 10", x.bar(1, 1000, 0), -5);
    CHECK.due("bars", x.count(0), 10);
    CHECK.due("from(9, 9)", x.from(9, 9), 16);
    CHECK.due("from(9, 10)", x.from(9, 10), -1);
    x.melt(0, 9);
    CHECK.due("a bar that is melted is a bar", x.bar(1, 1000, 0), -5);
    CHECK.due("bars then", x.count(0), 10);
  }

  private static void thousandths() {
    CHECK.edges("bar(1, n, 0)", n -> new GoldLeaves().bar(1, n, 0),
        MIN, -1, -1, -1, 0, 0, 1, 0, 999, 0, 1000, 0, 1001, -1, MAX, -1);
    CHECK.edges("bar(1, 0, n)", n -> new GoldLeaves().bar(1, 0, n),
        MIN, -1, -1, -1, 0, 0, 1, 0, 999, 0, 1000, 0, 1001, -1, MAX, -1);
  }

  private static void together() {
    CHECK.edges("bar(1, 1, n)", n -> new GoldLeaves().bar(1, 1, n), -1, -1, 0, 0, 999, 0, 1000, -1);
    CHECK.edges("bar(1, 1000, n)", n -> new GoldLeaves().bar(1, 1000, n), -1, -1, 0, 0, 1, -1, 1000, -1);
    CHECK.edges("bar(1, n, 1000)", n -> new GoldLeaves().bar(1, n, 1000), -1, -1, 0, 0, 1, -1, 1000, -1);
    CHECK.edges("bar(1, n, 600)", n -> new GoldLeaves().bar(1, n, 600), 399, 0, 400, 0, 401, -1);
    CHECK.edges("a sum that wraps to 1000: bar(1, n, 1000 - n)", n -> new GoldLeaves().bar(1, n, 1000 - n),
        MIN, -1, MIN + 1000, -1, -1, -1, 1001, -1, MAX, -1);
    CHECK.edges("a sum that wraps to 0: bar(1, n, -n)", n -> new GoldLeaves().bar(1, n, -n),
        MIN, -1, -1000, -1, 0, 0, 1000, -1, MAX, -1);
    GoldLeaves x = new GoldLeaves();
    x.bar(3, 400, 600);
    x.bar(3, 400, 599);
    x.bar(3, 0, 0);
    CHECK.due("no copper", x.part(0, 2), 0);
    CHECK.due("the least copper", x.part(1, 2), 3);
    CHECK.due("all copper", x.part(2, 2), 3000);
  }

  private static void piecesInAll() {
    GoldLeaves x = Houses.pieces(119);
    CHECK.due("cut of the 120th", x.cut(0, 1), 119);
    CHECK.due("cut of the 121st", x.cut(0, 1), -5);
    CHECK.due("weight(119)", x.weight(119), 1);
    CHECK.due("weight(120)", x.weight(120), -1);
    CHECK.due("weight(0)", x.weight(0), 881);
    CHECK.due("pieces", x.count(2), 120);
    x = Houses.pieces(119);
    CHECK.due("bar as the 120th", x.bar(5, 0, 0), 119);
    CHECK.due("cut behind it", x.cut(0, 1), -5);
  }

  private static void gonePiecesKeepTheirPlace() {
    GoldLeaves x = Houses.pieces(120);
    CHECK.due("melt(0, 119)", x.melt(0, 119), 882);
    CHECK.due("cut", x.cut(0, 1), -5);
    CHECK.due("bar", x.bar(1, 0, 0), -5);
    CHECK.due("pieces in all", x.count(2), 120);
    CHECK.due("pieces that are not gone", x.count(1), 119);
    x = Houses.pieces(3);
    x.melt(0, 1);
    CHECK.due("a number is not given again", x.cut(0, 1), 3);
  }

  private static void barWithoutRoomForItsPiece() {
    GoldLeaves x = Houses.pieces(120);
    CHECK.due("bar 1", x.bar(5, 0, 0), -5);
    CHECK.due("bars", x.count(0), 1);
    CHECK.due("from(0, 1)", x.from(0, 1), -1);
    x = Houses.bars(9, 9, 9, 9, 9, 9, 9, 9, 9, 9);
    CHECK.due("bar 10", x.bar(5, 0, 0), -5);
    CHECK.due("pieces", x.count(2), 10);
  }

  private static void allTogetherTheWeight() {
    GoldLeaves x = Houses.melted(1, 2, 3, 4, 5, 6, 7, 8, 9, 10);
    CHECK.due("weight(0)", x.weight(0), 55);
    CHECK.due("cut(0, 54)", x.cut(0, 54), 10);
    int sum = 0;
    for (int bar = 0; bar < 10; bar++) {
      sum += x.from(10, bar);
    }
    CHECK.due("grains of piece 10", sum, 54);
    CHECK.due("weight(10)", x.weight(10), 54);
    CHECK.due("weight(0) then", x.weight(0), 1);
  }

  private static void grainsOfBars() {
    CHECK.edges("bar(n, 1, 1)", n -> new GoldLeaves().bar(n, 1, 1),
        MIN, -1, -1, -1, 0, -1, 1, 0, 2, 0, 999_999, 0, 1_000_000, 0, 1_000_001, -1, MAX, -1);
    CHECK.edges("weight of bar(n, 1, 1)", n -> Houses.bars(n).weight(0),
        0, -1, 1, 1, 1_000_000, 1_000_000, 1_000_001, -1);
  }

  private static void cutOfNothing() {
    CHECK.edges("cut(0, n) of 5", n -> Houses.bars(5).cut(0, n), MIN, -1, -1, -1, 0, -1, 1, 1);
  }

  private static void cutBelowWeight() {
    CHECK.edges("cut(0, n) of 5", n -> Houses.bars(5).cut(0, n), 4, 1, 5, -3, 6, -3, MAX, -3);
    CHECK.edges("cut(0, n) of 2", n -> Houses.bars(2).cut(0, n), 1, 1, 2, -3);
    CHECK.edges("cut(0, n) of 1", n -> Houses.bars(1).cut(0, n), 0, -1, 1, -3);
    CHECK.edges("cut(0, n) of 1,000,000", n -> Houses.bars(1_000_000).cut(0, n), 999_999, 1, 1_000_000, -3);
    CHECK.edges("cut(0, n) of 10,000,000", n -> heaviest().cut(0, n), 9_999_999, 10, 10_000_000, -3);
    GoldLeaves x = Houses.bars(5);
    x.cut(0, 4);
    CHECK.due("the last grain stays", x.weight(0), 1);
    CHECK.due("and is not cut", x.cut(0, 1), -3);
  }

  private static GoldLeaves heaviest() {
    int[] grains = new int[10];
    java.util.Arrays.fill(grains, 1_000_000);
    return Houses.melted(grains);
  }

  private static void dueGrains(GoldLeaves x, int piece, int... grains) {
    for (int bar = 0; bar < grains.length; bar++) {
      CHECK.due("from(" + piece + ", " + bar + ")", x.from(piece, bar), grains[bar]);
    }
  }

  private static void shares() {
    GoldLeaves x = Houses.melted(10, 20, 30);
    x.cut(0, 6);
    dueGrains(x, 3, 1, 2, 3);
    // 30 grains from two BARS and none from a third: 9.5 of 19 and 5.5 of 11.
    x = Houses.melted(19, 11);
    x.bar(1, 0, 0);
    x.cut(0, 15);
    dueGrains(x, 3, 10, 5, 0);
    x = Houses.melted(1_000_000, 1_000_000);
    x.cut(0, 1_999_999);
    dueGrains(x, 2, 1_000_000, 999_999);
    x = heaviest();
    x.cut(0, 9_999_999);
    dueGrains(x, 10, 1_000_000, 1_000_000, 1_000_000, 1_000_000, 1_000_000,
        1_000_000, 1_000_000, 1_000_000, 1_000_000, 999_999);
  }

  private static void oneEach() {
    GoldLeaves x = Houses.melted(1, 1, 1, 1, 1, 1, 1, 1, 1, 1);
    x.cut(0, 9);
    dueGrains(x, 10, 1, 1, 1, 1, 1, 1, 1, 1, 1, 0);
    x = Houses.melted(1, 1, 1, 1, 1, 1, 1, 1, 1, 1);
    x.cut(0, 1);
    dueGrains(x, 10, 1, 0, 0, 0, 0, 0, 0, 0, 0, 0);
    // 1.25, 1.875, 1.875: two are left for the rests 2, 7, 7.
    x = Houses.melted(2, 3, 3);
    x.cut(0, 5);
    dueGrains(x, 3, 1, 2, 2);
    x = Houses.melted(4, 6);
    x.cut(0, 5);
    dueGrains(x, 2, 2, 3);
  }

  private static void greatestRests() {
    GoldLeaves x = Houses.melted(5, 6);
    x.cut(0, 1);
    dueGrains(x, 2, 0, 1);
    x = Houses.melted(6, 5);
    x.cut(0, 1);
    dueGrains(x, 2, 1, 0);
    // 0.75, 1.125, 1.125: one is left for the rests 6, 1, 1.
    x = Houses.melted(2, 3, 3);
    x.cut(0, 3);
    dueGrains(x, 3, 1, 1, 1);
    x = Houses.melted(1, 1, 1, 1, 1, 1, 1, 1, 1, 2);
    x.cut(0, 1);
    dueGrains(x, 10, 0, 0, 0, 0, 0, 0, 0, 0, 0, 1);
  }

  private static void alikeRests() {
    GoldLeaves x = Houses.melted(5, 5);
    x.cut(0, 1);
    dueGrains(x, 2, 1, 0);
    x = Houses.melted(3, 5, 5);
    x.cut(0, 1);
    dueGrains(x, 3, 0, 1, 0);
    // Shares 1.5, 0.5, 1: rests 3, 3, 0.
    x = Houses.melted(3, 1, 2);
    x.cut(0, 3);
    dueGrains(x, 3, 2, 0, 1);
  }

  private static void oldKeepsTheOthers() {
    GoldLeaves x = Houses.melted(2, 3, 3);
    x.cut(0, 5);
    dueGrains(x, 0, 1, 1, 1);
    CHECK.due("weight(0)", x.weight(0), 3);
    x.cut(0, 2);
    dueGrains(x, 4, 1, 1, 0);
    dueGrains(x, 0, 0, 0, 1);
    CHECK.due("grains of all", x.count(7), 8);
  }

  private static void meltingGrainByGrain() {
    GoldLeaves x = Houses.bars(1, 1_000_000);
    CHECK.due("melt(0, 1)", x.melt(0, 1), 1_000_001);
    dueGrains(x, 0, 1, 1_000_000);
    CHECK.due("weight of all ten", heaviest().weight(0), 10_000_000);
    CHECK.due("grains of all", heaviest().count(7), 10_000_000);
    x = Houses.pieces(2);
    CHECK.due("back again", x.melt(1, 0), 1000);
    dueGrains(x, 1, 1000);
  }

  private static void meltedIsGone() {
    GoldLeaves x = Houses.bars(3, 4);
    x.melt(0, 1);
    CHECK.due("weight(1)", x.weight(1), -1);
    CHECK.due("from(1, 1)", x.from(1, 1), -1);
    CHECK.due("part(1, 0)", x.part(1, 0), -1);
    CHECK.due("colour(1)", x.colour(1), -1);
    CHECK.due("book(1)", x.book(1), -1);
    CHECK.due("pieces that are not gone", x.count(1), 1);
    CHECK.due("grains of all", x.count(7), 7);
  }

  private static GoldLeaves threeAndOneGone() {
    GoldLeaves x = Houses.bars(5, 5, 5, 5);
    x.melt(0, 2);
    return x;
  }

  private static void noSuchPiece() {
    CHECK.edges("cut(n, 1)", n -> threeAndOneGone().cut(n, 1),
        MIN, -2, -1, -2, 0, 4, 1, 4, 2, -2, 3, 4, 4, -2, 119, -2, 120, -2, MAX, -2);
    CHECK.edges("melt(n, 1)", n -> threeAndOneGone().melt(n, 1),
        MIN, -2, -1, -2, 0, 15, 2, -2, 3, 10, 4, -2, 119, -2, 120, -2, MAX, -2);
    CHECK.edges("melt(1, n)", n -> threeAndOneGone().melt(1, n),
        MIN, -2, -1, -2, 0, 15, 2, -2, 3, 10, 4, -2, 119, -2, 120, -2, MAX, -2);
    CHECK.edges("leaf(n, 1)", n -> threeAndOneGone().leaf(n, 1),
        MIN, -2, -1, -2, 0, 1, 2, -2, 3, 1, 4, -2, 119, -2, 120, -2, MAX, -2);
  }

  private static void cannotBe() {
    CHECK.edges("melt(n, n)", n -> threeAndOneGone().melt(n, n), -1, -2, 0, -3, 1, -3, 2, -2, 3, -3, 4, -2);
    GoldLeaves x = Houses.bars(5, 5, 5);
    x.leaf(0, 1);
    x.leaf(1, 1);
    CHECK.due("cut of a leaf", x.cut(0, 1), -3);
    CHECK.due("not so heavy, and a leaf", x.cut(0, 5), -3);
    CHECK.due("a leaf is melted", x.melt(2, 0), -3);
    CHECK.due("into a leaf", x.melt(0, 2), -3);
    CHECK.due("a leaf into a leaf", x.melt(0, 1), -3);
    CHECK.due("a leaf into itself", x.melt(0, 0), -3);
    CHECK.due("pieces", x.count(1), 3);
  }

  private static void weights() {
    CHECK.edges("weight(n)", n -> threeAndOneGone().weight(n),
        MIN, -1, -1, -1, 0, 10, 1, 5, 2, -1, 3, 5, 4, -1, 119, -1, 120, -1, MAX, -1);
    CHECK.edges("weight(n) of 120", n -> Houses.pieces(120).weight(n), -1, -1, 0, 881, 119, 1, 120, -1);
  }

  private static void grainsFrom() {
    CHECK.edges("from(n, 0)", n -> threeAndOneGone().from(n, 0),
        MIN, -1, -1, -1, 0, 5, 1, 0, 2, -1, 3, 0, 4, -1, 119, -1, 120, -1, MAX, -1);
    CHECK.edges("from(0, n)", n -> threeAndOneGone().from(0, n),
        MIN, -1, -1, -1, 0, 5, 1, 0, 2, 5, 3, 0, 4, -1, 9, -1, 10, -1, MAX, -1);
    CHECK.edges("from(0, n) of ten", n -> heaviest().from(0, n), 0, 1_000_000, 9, 1_000_000, 10, -1);
  }

  private static long partOf(int piece, int metal) {
    GoldLeaves x = new GoldLeaves();
    x.bar(2, 500, 300);
    x.bar(4, 100, 200);
    x.bar(1, 0, 0);
    x.melt(0, 1);
    return x.part(piece, metal);
  }

  private static void metals() {
    CHECK.edges("part(0, n)", n -> partOf(0, n), MIN, -1, -1, -1, 0, 1400, 1, 1400, 2, 3200, 3, -1, MAX, -1);
    CHECK.edges("part(n, 2)", n -> partOf(n, 2),
        MIN, -1, -1, -1, 0, 3200, 1, -1, 2, 1000, 3, -1, 119, -1, 120, -1, MAX, -1);
    CHECK.edges("part(2, n), none of it", n -> partOf(2, n), 0, 0, 1, 0, 2, 1000);
  }

  private static void greatestParts() {
    CHECK.due("gold of ten bars", heaviest().part(0, 0), 10_000_000_000L);
    CHECK.due("silver of ten bars", heaviest().part(0, 1), 0);
    CHECK.due("copper of ten bars", heaviest().part(0, 2), 0);
    GoldLeaves x = new GoldLeaves();
    x.bar(1_000_000, 0, 1000);
    x.bar(1_000_000, 0, 1000);
    x.bar(1_000_000, 0, 1000);
    x.melt(0, 1);
    x.melt(0, 2);
    CHECK.due("more than an int holds", x.part(0, 1), 3_000_000_000L);
    x = Houses.bars(1);
    CHECK.due("the least gold bar", x.part(0, 0), 1000);
  }
}
