/** Promises 23 to 26: pass, held, find, missing. */
public final class DoorsTest {
  private static final Check CHECK = new Check("DoorsTest");
  private static final int NOTHING = -1_000_000_000;

  public static void main(String[] args) {
    passNumbers();
    passLimit();
    holding();
    holdingBounds();
    knowing();
    findNumbers();
    findLimit();
    missingHours();
    missingKnowledge();
    CHECK.finish();
  }

  private static void passNumbers() {
    GoldLeaves x = new GoldLeaves();
    CHECK.due("pass(-1, ..)", x.pass(-1, 1, 0, 0), -1);
    CHECK.due("pass(4, ..)", x.pass(4, 1, 0, 0), -1);
    CHECK.due("too many grains", x.pass(0, 1_000_001, 0, 0), -1);
    CHECK.due("too many grains outwards", x.pass(0, -1_000_001, 0, 0), -1);
    CHECK.due("hour -1", x.pass(0, 1, -1, 0), -1);
    CHECK.due("hour 1001", x.pass(0, 1, 1001, 0), -1);
    CHECK.due("known -1", x.pass(0, 1, 0, -1), -1);
    CHECK.due("known 1001", x.pass(0, 1, 0, 1001), -1);
    CHECK.due("MIN everywhere", x.pass(0, Integer.MIN_VALUE, Integer.MIN_VALUE, Integer.MIN_VALUE), -1);
    CHECK.due("nothing passed", x.held(0, 1000, 1000), 0);
    CHECK.due("the most inwards", x.pass(0, 1_000_000, 1000, 1000), 1);
    CHECK.due("the most outwards", x.pass(3, -1_000_000, 0, 0), 2);
    CHECK.due("no grains", x.pass(1, 0, 0, 0), 3);
    CHECK.due("known ahead of its hour", x.pass(2, 5, 10, 3), 4);
    CHECK.due("held(0, 1000, 1000)", x.held(0, 1000, 1000), 1_000_000);
    CHECK.due("held(0, 999, 1000)", x.held(0, 999, 1000), 0);
    CHECK.due("held(0, 1000, 999)", x.held(0, 1000, 999), 0);
    CHECK.due("held(3, 0, 0)", x.held(3, 0, 0), -1_000_000);
    CHECK.due("held(2, 10, 3)", x.held(2, 10, 3), 1_000_005);
  }

  private static void passLimit() {
    GoldLeaves x = new GoldLeaves();
    for (int i = 1; i <= 200; i++) {
      CHECK.due("pass " + i, x.pass(i % 2, i % 2 == 0 ? 1_000_000 : -1_000_000, 1, 1), i);
    }
    CHECK.due("pass 201", x.pass(0, 1, 1, 1), -5);
    CHECK.due("a wrong pass 201", x.pass(4, 1, 1, 1), -1);
    CHECK.due("held(0, ..) of all", x.held(0, 1000, 1000), 200_000_000);
    CHECK.due("held(1, ..) of all", x.held(1, 1000, 1000), -100_000_000);
  }

  private static void holding() {
    GoldLeaves x = new GoldLeaves();
    x.pass(0, 100, 5, 5);
    x.pass(1, 60, 6, 6);
    x.pass(2, 30, 7, 7);
    x.pass(3, 10, 8, 8);
    x.pass(3, -4, 9, 9);
    int[][] want = {{100, 40, 40, 40, 40}, {0, 60, 30, 30, 30}, {0, 0, 30, 20, 24}, {0, 0, 0, 10, 6}};
    for (int room = 0; room < 4; room++) {
      CHECK.due("held(" + room + ", 4, 1000)", x.held(room, 4, 1000), 0);
      for (int i = 0; i < 5; i++) {
        CHECK.due("held(" + room + ", " + (5 + i) + ", 1000)", x.held(room, 5 + i, 1000), want[room][i]);
        CHECK.due("held(" + room + ", 1000, " + (5 + i) + ")", x.held(room, 1000, 5 + i), want[room][i]);
      }
    }
  }

  private static void holdingBounds() {
    GoldLeaves x = new GoldLeaves();
    x.pass(0, 7, 0, 0);
    CHECK.due("held(0, 0, 0)", x.held(0, 0, 0), 7);
    CHECK.due("held(0, 1000, 1000)", x.held(0, 1000, 1000), 7);
    CHECK.due("held(-1, 0, 0)", x.held(-1, 0, 0), NOTHING);
    CHECK.due("held(4, 0, 0)", x.held(4, 0, 0), NOTHING);
    CHECK.due("held(0, -1, 0)", x.held(0, -1, 0), NOTHING);
    CHECK.due("held(0, 1001, 0)", x.held(0, 1001, 0), NOTHING);
    CHECK.due("held(0, 0, -1)", x.held(0, 0, -1), NOTHING);
    CHECK.due("held(0, 0, 1001)", x.held(0, 0, 1001), NOTHING);
    CHECK.due("held(MAX, ..)", x.held(Integer.MAX_VALUE, 0, 0), NOTHING);
  }

  private static void knowing() {
    GoldLeaves x = new GoldLeaves();
    x.pass(0, 50, 2, 10);
    x.pass(0, 5, 8, 3);
    CHECK.due("not known as yet", x.held(0, 2, 9), 0);
    CHECK.due("known", x.held(0, 2, 10), 50);
    CHECK.due("known ahead of the hour", x.held(0, 8, 3), 5);
    CHECK.due("known, but not by that hour", x.held(0, 7, 3), 0);
    CHECK.due("both", x.held(0, 8, 10), 55);
  }

  private static void findNumbers() {
    GoldLeaves x = new GoldLeaves();
    CHECK.due("find(-1, 0, 0)", x.find(-1, 0, 0), -1);
    CHECK.due("find(4, 0, 0)", x.find(4, 0, 0), -1);
    CHECK.due("find(0, -1, 0)", x.find(0, -1, 0), -1);
    CHECK.due("find(0, 1001, 0)", x.find(0, 1001, 0), -1);
    CHECK.due("find(0, 0, -1)", x.find(0, 0, -1), -1);
    CHECK.due("find(0, 0, 100000001)", x.find(0, 0, 100_000_001), -1);
    CHECK.due("find(0, 0, 0)", x.find(0, 0, 0), 1);
    CHECK.due("find(3, 1000, 100000000)", x.find(3, 1000, 100_000_000), 2);
  }

  private static void findLimit() {
    GoldLeaves x = new GoldLeaves();
    for (int i = 1; i <= 60; i++) {
      CHECK.due("find " + i, x.find(1, i, 0), i);
    }
    CHECK.due("find 61", x.find(1, 0, 0), -5);
    CHECK.due("a wrong find 61", x.find(1, 0, -1), -1);
    x.pass(1, 1, 60, 60);
    CHECK.due("the last one counts", x.missing(1, 1000), 60);
  }

  private static void missingHours() {
    GoldLeaves x = new GoldLeaves();
    CHECK.due("missing(0, 0) at first", x.missing(0, 0), -1);
    x.pass(0, 100, 1, 1);
    x.pass(1, 30, 5, 5);
    CHECK.due("missing without finds", x.missing(0, 1000), -1);
    x.find(0, 6, 70);
    CHECK.due("just as much", x.missing(0, 1000), -1);
    x.find(0, 6, 71);
    CHECK.due("more than IN", x.missing(0, 1000), -1);
    x.find(0, 9, 69);
    CHECK.due("less", x.missing(0, 1000), 9);
    x.find(0, 4, 100);
    CHECK.due("as much ahead of the door", x.missing(0, 1000), 9);
    x.find(0, 4, 99);
    CHECK.due("an earlier hour", x.missing(0, 1000), 4);
    x.find(0, 7, 0);
    CHECK.due("a later hour", x.missing(0, 1000), 4);
    x.find(0, 0, 0);
    CHECK.due("nothing was in in hour 0", x.missing(0, 1000), 4);
    CHECK.due("another room", x.missing(1, 1000), -1);
    x.find(1, 5, 29);
    CHECK.due("the other room then", x.missing(1, 1000), 5);
    CHECK.due("missing(-1, 0)", x.missing(-1, 0), -1);
    CHECK.due("missing(4, 1000)", x.missing(4, 1000), -1);
    CHECK.due("missing(0, -1)", x.missing(0, -1), -1);
    CHECK.due("missing(0, 1001)", x.missing(0, 1001), -1);
    x.pass(0, 1, 0, 0);
    CHECK.due("hour 0", x.missing(0, 1000), 0);
    x.pass(2, 40, 3, 3);
    x.find(1, 5, 0);
    CHECK.due("less than nothing is IN", x.held(1, 5, 1000), -10);
    CHECK.due("none is missing then", x.missing(1, 1000), -1);
  }

  private static void missingKnowledge() {
    GoldLeaves x = new GoldLeaves();
    x.pass(0, 100, 1, 1);
    x.pass(1, 40, 2, 6);
    x.find(0, 3, 60);
    CHECK.due("not found as yet", x.missing(0, 2), -1);
    CHECK.due("the door's weight is not known", x.missing(0, 3), 3);
    CHECK.due("nor then", x.missing(0, 5), 3);
    CHECK.due("it is known", x.missing(0, 6), -1);
    x.pass(0, 10, 3, 8);
    CHECK.due("late news, too early", x.missing(0, 7), -1);
    CHECK.due("late news", x.missing(0, 8), 3);
  }
}
