/** Terms IV and promises 23 to 26, sentence by sentence. */
public final class EdgesOfDoorsTest {
  private static final Check CHECK = new Check("EdgesOfDoorsTest");
  private static final int MIN = Check.MIN;
  private static final int MAX = Check.MAX;
  private static final int NOTHING = -1_000_000_000;

  public static void main(String[] args) {
    CHECK.sentence("DOORS 0 .. 3 in a row", EdgesOfDoorsTest::doors);
    CHECK.sentence("PASSED, 200 at most", EdgesOfDoorsTest::twoHundredPassed);
    CHECK.sentence("outwards below 0: -1,000,000 .. 1,000,000", EdgesOfDoorsTest::grainsPassed);
    CHECK.sentence("in an HOUR (0 .. 1000)", EdgesOfDoorsTest::hoursPassed);
    CHECK.sentence("known from an HOUR on", EdgesOfDoorsTest::hoursKnown);
    CHECK.sentence("as known in an HOUR k", EdgesOfDoorsTest::inAsKnown);
    CHECK.sentence("all that PASSED DOOR d by h", EdgesOfDoorsTest::inByHour);
    CHECK.sentence("less what PASSED DOOR d + 1 by h", EdgesOfDoorsTest::nextDoor);
    CHECK.sentence("(behind DOOR 3 there is none)", EdgesOfDoorsTest::lastDoor);
    CHECK.sentence("all that PASSED DOOR d by h less what PASSED DOOR d + 1 by h | greatest sums",
        EdgesOfDoorsTest::greatestSums);
    CHECK.sentence("NOTHING (-1,000,000,000) for others.", EdgesOfDoorsTest::nothing);
    CHECK.sentence("FOUND, 60 at most", EdgesOfDoorsTest::sixtyFound);
    CHECK.sentence("a room (0 .. 3) was weighed in an HOUR", EdgesOfDoorsTest::roomsAndHoursFound);
    CHECK.sentence("-1 (grains 0 .. 100,000,000)", EdgesOfDoorsTest::grainsFound);
    CHECK.sentence("so many grains (known at once)", EdgesOfDoorsTest::knownAtOnce);
    CHECK.sentence("the first HOUR in which it was FOUND", EdgesOfDoorsTest::firstHour);
    CHECK.sentence("to have less than IN", EdgesOfDoorsTest::lessThanIn);
    CHECK.sentence("less than IN as known in k", EdgesOfDoorsTest::missingAsKnown);
    CHECK.sentence("MISSING: the HOUR; NONE.", EdgesOfDoorsTest::missingNumbers);
    CHECK.finish();
  }

  private static void doors() {
    CHECK.edges("pass(n, ..)", n -> new GoldLeaves().pass(n, 1, 0, 0),
        MIN, -1, -1, -1, 0, 1, 1, 1, 2, 1, 3, 1, 4, -1, MAX, -1);
    for (int door = 0; door < 4; door++) {
      GoldLeaves x = new GoldLeaves();
      x.pass(door, 7, 0, 0);
      for (int room = 0; room < 4; room++) {
        int want = room == door ? 7 : room + 1 == door ? -7 : 0;
        CHECK.due("held(" + room + ", ..) behind door " + door, x.held(room, 0, 0), want);
      }
    }
  }

  private static GoldLeaves passed(int many) {
    GoldLeaves x = new GoldLeaves();
    for (int i = 0; i < many; i++) {
      x.pass(0, 1, 5, 5);
    }
    return x;
  }

  private static void twoHundredPassed() {
    CHECK.edges("pass behind n", n -> passed(n).pass(3, 9, 5, 5), 0, 1, 198, 199, 199, 200, 200, -5);
    GoldLeaves x = passed(199);
    x.pass(3, 9, 5, 5);
    x.pass(3, 9, 5, 5);
    CHECK.due("the two hundredth is kept, one more is not", x.held(3, 5, 5), 9);
    CHECK.due("all but one", x.held(0, 5, 5), 199);
    x = passed(199);
    x.pass(4, 9, 5, 5);
    CHECK.due("a refused one takes no room", x.pass(3, 9, 5, 5), 200);
  }

  private static int heldBehind(int grains) {
    GoldLeaves x = new GoldLeaves();
    x.pass(0, grains, 0, 0);
    return x.held(0, 0, 0);
  }

  private static void grainsPassed() {
    CHECK.edges("pass(0, n, ..)", n -> new GoldLeaves().pass(0, n, 0, 0), MIN, -1, MIN + 1, -1, -1_000_001, -1,
        -1_000_000, 1, -1, 1, 0, 1, 1, 1, 1_000_000, 1, 1_000_001, -1, MAX, -1);
    CHECK.edges("held behind n grains", EdgesOfDoorsTest::heldBehind, -1_000_001, 0,
        -1_000_000, -1_000_000, -1, -1, 0, 0, 1, 1, 1_000_000, 1_000_000, 1_000_001, 0);
  }

  private static void hoursPassed() {
    CHECK.edges("pass(0, 1, n, 0)", n -> new GoldLeaves().pass(0, 1, n, 0),
        MIN, -1, -1, -1, 0, 1, 1, 1, 999, 1, 1000, 1, 1001, -1, MAX, -1);
  }

  private static void hoursKnown() {
    CHECK.edges("pass(0, 1, 0, n)", n -> new GoldLeaves().pass(0, 1, 0, n),
        MIN, -1, -1, -1, 0, 1, 1, 1, 999, 1, 1000, 1, 1001, -1, MAX, -1);
    CHECK.edges("pass(0, 1, 500, n)", n -> new GoldLeaves().pass(0, 1, 500, n), 0, 1, 499, 1, 500, 1, 501, 1);
  }

  private static int heldOf(int passedIn, int knownFrom, int hour, int known) {
    GoldLeaves x = new GoldLeaves();
    x.pass(0, 7, passedIn, knownFrom);
    return x.held(0, hour, known);
  }

  private static void inAsKnown() {
    CHECK.edges("known from 10, in n", n -> heldOf(2, 10, 1000, n), 0, 0, 9, 0, 10, 7, 11, 7, 1000, 7);
    CHECK.edges("known from 0, in n", n -> heldOf(0, 0, 1000, n), 0, 7, 1000, 7);
    CHECK.edges("known from 1000, in n", n -> heldOf(0, 1000, 1000, n), 999, 0, 1000, 7);
    CHECK.edges("known ahead of its hour, in n", n -> heldOf(20, 10, 20, n), 9, 0, 10, 7, 19, 7);
  }

  private static void inByHour() {
    CHECK.edges("in hour 10, by n", n -> heldOf(10, 0, n, 1000), 0, 0, 9, 0, 10, 7, 11, 7, 1000, 7);
    CHECK.edges("in hour 0, by n", n -> heldOf(0, 0, n, 1000), 0, 7, 1000, 7);
    CHECK.edges("in hour 1000, by n", n -> heldOf(1000, 0, n, 1000), 999, 0, 1000, 7);
  }

  private static int heldOfNext(int hour, int known) {
    GoldLeaves x = new GoldLeaves();
    x.pass(1, 100, 0, 0);
    x.pass(2, 30, 10, 20);
    x.pass(3, 5, 10, 20);
    return x.held(1, hour, known);
  }

  private static void nextDoor() {
    CHECK.edges("held(1, n, 1000)", n -> heldOfNext(n, 1000), 0, 100, 9, 100, 10, 70, 11, 70, 1000, 70);
    CHECK.edges("held(1, 1000, n)", n -> heldOfNext(1000, n), 0, 100, 19, 100, 20, 70, 21, 70, 1000, 70);
    GoldLeaves x = new GoldLeaves();
    x.pass(1, 5, 0, 0);
    CHECK.due("less than nothing", x.held(0, 0, 0), -5);
    x.pass(1, -9, 0, 0);
    CHECK.due("back outwards", x.held(0, 0, 0), 4);
  }

  private static void lastDoor() {
    GoldLeaves x = new GoldLeaves();
    for (int door = 0; door < 4; door++) {
      x.pass(door, 1000 + door, 0, 0);
    }
    CHECK.due("held(3, 0, 0)", x.held(3, 0, 0), 1003);
    CHECK.due("held(2, 0, 0)", x.held(2, 0, 0), -1);
    CHECK.due("pass(4, ..)", x.pass(4, 1, 0, 0), -1);
    CHECK.due("held(3, 0, 0) then", x.held(3, 0, 0), 1003);
  }

  private static void greatestSums() {
    GoldLeaves x = new GoldLeaves();
    GoldLeaves y = new GoldLeaves();
    for (int i = 0; i < 200; i++) {
      x.pass(1, 1_000_000, 1000, 1000);
      y.pass(i % 2, i % 2 == 0 ? -1_000_000 : 1_000_000, 0, 0);
    }
    CHECK.due("the most", x.held(1, 1000, 1000), 200_000_000);
    CHECK.due("the least", x.held(0, 1000, 1000), -200_000_000);
    CHECK.due("an hour ahead", x.held(1, 999, 1000), 0);
    CHECK.due("both doors", y.held(0, 0, 0), -200_000_000);
  }

  private static void nothing() {
    CHECK.edges("held(n, 0, 0)", n -> passed(1).held(n, 0, 0),
        MIN, NOTHING, -1, NOTHING, 0, 0, 3, 0, 4, NOTHING, MAX, NOTHING);
    CHECK.edges("held(0, n, 5)", n -> passed(1).held(0, n, 5),
        MIN, NOTHING, -1, NOTHING, 0, 0, 1000, 1, 1001, NOTHING, MAX, NOTHING);
    CHECK.edges("held(0, 5, n)", n -> passed(1).held(0, 5, n),
        MIN, NOTHING, -1, NOTHING, 0, 0, 1000, 1, 1001, NOTHING, MAX, NOTHING);
  }

  private static GoldLeaves found(int many) {
    GoldLeaves x = passed(1);
    for (int i = 0; i < many; i++) {
      x.find(0, 9, 1);
    }
    return x;
  }

  private static void sixtyFound() {
    CHECK.edges("find behind n", n -> found(n).find(0, 9, 0), 0, 1, 58, 59, 59, 60, 60, -5);
    GoldLeaves x = found(59);
    CHECK.due("nothing is missing", x.missing(0, 1000), -1);
    x.find(0, 9, 0);
    CHECK.due("the sixtieth is kept", x.missing(0, 1000), 9);
    x = found(60);
    x.find(0, 9, 0);
    CHECK.due("one more is not", x.missing(0, 1000), -1);
    x = found(59);
    x.find(4, 9, 0);
    CHECK.due("a refused one takes no room", x.find(0, 9, 0), 60);
  }

  private static void roomsAndHoursFound() {
    CHECK.edges("find(n, 0, 0)", n -> new GoldLeaves().find(n, 0, 0),
        MIN, -1, -1, -1, 0, 1, 1, 1, 2, 1, 3, 1, 4, -1, MAX, -1);
    CHECK.edges("find(0, n, 0)", n -> new GoldLeaves().find(0, n, 0),
        MIN, -1, -1, -1, 0, 1, 1, 1, 999, 1, 1000, 1, 1001, -1, MAX, -1);
    for (int room = 0; room < 4; room++) {
      GoldLeaves x = new GoldLeaves();
      x.pass(room, 5, 0, 0);
      x.find(room, 3, 4);
      for (int other = 0; other < 4; other++) {
        CHECK.due("missing(" + other + ", 1000)", x.missing(other, 1000), other == room ? 3 : -1);
      }
    }
  }

  private static void grainsFound() {
    CHECK.edges("find(0, 0, n)", n -> new GoldLeaves().find(0, 0, n),
        MIN, -1, -1, -1, 0, 1, 1, 1, 99_999_999, 1, 100_000_000, 1, 100_000_001, -1, MAX, -1);
  }

  private static int missingAt(int hour, int known) {
    GoldLeaves x = new GoldLeaves();
    x.pass(0, 5, 0, 0);
    x.find(0, hour, 4);
    return x.missing(0, known);
  }

  private static void knownAtOnce() {
    CHECK.edges("found in 7, known in n", n -> missingAt(7, n), 0, -1, 6, -1, 7, 7, 8, 7, 1000, 7);
    CHECK.edges("found in 0, known in n", n -> missingAt(0, n), 0, 0, 1000, 0);
    CHECK.edges("found in 1000, known in n", n -> missingAt(1000, n), 999, -1, 1000, 1000);
  }

  private static void firstHour() {
    GoldLeaves x = new GoldLeaves();
    x.pass(0, 5, 2, 2);
    x.find(0, 9, 4);
    x.find(0, 9, 3);
    CHECK.due("twice in one hour", x.missing(0, 1000), 9);
    x.find(0, 10, 0);
    CHECK.due("a later one", x.missing(0, 1000), 9);
    x.find(0, 8, 5);
    CHECK.due("an earlier one, with all", x.missing(0, 1000), 9);
    x.find(0, 8, 4);
    CHECK.due("the same hour, with less", x.missing(0, 1000), 8);
    x.find(0, 1, 0);
    CHECK.due("ahead of what passed", x.missing(0, 1000), 8);
    x.find(0, 2, 0);
    CHECK.due("in the hour in which it passed", x.missing(0, 1000), 2);
  }

  private static int missingWith(int grains) {
    GoldLeaves x = new GoldLeaves();
    x.pass(0, 100, 1, 1);
    x.pass(1, 30, 1, 1);
    x.find(0, 6, grains);
    return x.missing(0, 1000);
  }

  private static int missingOfDebt(int grains) {
    GoldLeaves x = new GoldLeaves();
    x.pass(0, grains, 1, 1);
    x.find(0, 6, 0);
    return x.missing(0, 1000);
  }

  private static void lessThanIn() {
    CHECK.edges("found n of 70", EdgesOfDoorsTest::missingWith, 0, 6, 69, 6, 70, -1, 71, -1, 100_000_000, -1);
    CHECK.edges("found 0 of n", EdgesOfDoorsTest::missingOfDebt, -1_000_000, -1, -1, -1, 0, -1, 1, 6, 1_000_000, 6);
    GoldLeaves x = new GoldLeaves();
    for (int i = 0; i < 101; i++) {
      x.pass(0, 1_000_000, 1, 1);
    }
    x.find(0, 2, 100_000_000);
    CHECK.due("the most that may be found is less", x.missing(0, 1000), 2);
  }

  private static int missingThen(int known) {
    GoldLeaves x = new GoldLeaves();
    x.pass(0, 100, 1, 1);
    x.pass(1, 40, 2, 6);
    x.pass(0, 10, 3, 8);
    x.find(0, 3, 60);
    return x.missing(0, known);
  }

  private static void missingAsKnown() {
    CHECK.edges("missing(0, n)", EdgesOfDoorsTest::missingThen, 0, -1, 2, -1, 3, 3, 5, 3, 6, -1, 7, -1, 8, 3, 1000, 3);
  }

  private static int missingOf(int room, int known) {
    GoldLeaves x = new GoldLeaves();
    for (int i = 0; i < 4; i++) {
      x.pass(i, 100 - i, 0, 0);
      x.find(i, i, 0);
    }
    return x.missing(room, known);
  }

  private static void missingNumbers() {
    CHECK.edges("missing(n, 1000)", n -> missingOf(n, 1000),
        MIN, -1, -1, -1, 0, 0, 1, 1, 2, 2, 3, 3, 4, -1, MAX, -1);
    CHECK.edges("missing(0, n)", n -> missingOf(0, n), MIN, -1, -1, -1, 0, 0, 1000, 0, 1001, -1, MAX, -1);
    CHECK.due("at first", new GoldLeaves().missing(0, 1000), -1);
    CHECK.due("never found", passed(1).missing(0, 1000), -1);
  }
}
