/** Promises 13 to 17: skin, dry, age, pack, beat. */
public final class SkinsTest {
  private static final Check CHECK = new Check("SkinsTest");

  public static void main(String[] args) {
    skins();
    drying();
    packNumbers();
    packsAtFirst();
    oldestFirst();
    packsOneBehindTheOther();
    spans();
    oldAge();
    CHECK.finish();
  }

  private static void skins() {
    GoldLeaves x = new GoldLeaves();
    CHECK.due("skin(-1)", x.skin(-1), -1);
    CHECK.due("skin(101)", x.skin(101), -1);
    CHECK.due("skin(MIN)", x.skin(Integer.MIN_VALUE), -1);
    CHECK.due("skin(0)", x.skin(0), 0);
    CHECK.due("skin(100)", x.skin(100), 1);
    for (int i = 2; i < 60; i++) {
      CHECK.due("skin " + i, x.skin(i), i);
    }
    CHECK.due("skin 60", x.skin(5), -5);
    CHECK.due("a wrong skin 60", x.skin(101), -1);
    CHECK.due("skins", x.count(5), 60);
    CHECK.due("age(59)", x.age(59), 0);
    CHECK.due("age(60)", x.age(60), -1);
    CHECK.due("age(-1)", x.age(-1), -1);
    CHECK.due("age(MAX)", x.age(Integer.MAX_VALUE), -1);
    CHECK.due("dry(59, 1)", x.dry(59, 1), 59);
    CHECK.due("dry(60, 1)", x.dry(60, 1), -2);
  }

  private static void drying() {
    GoldLeaves x = new GoldLeaves();
    CHECK.due("dry(0, 5) without skins", x.dry(0, 5), -2);
    CHECK.due("dry(0, 101) without skins", x.dry(0, 101), -1);
    x.skin(7);
    CHECK.due("dry(0, 0)", x.dry(0, 0), 7);
    CHECK.due("dry(0, 100)", x.dry(0, 100), 0);
    CHECK.due("dry(0, 101)", x.dry(0, 101), -1);
    CHECK.due("dry(0, -1)", x.dry(0, -1), -1);
    CHECK.due("dry(-1, 5)", x.dry(-1, 5), -2);
    CHECK.due("dry(1, 5)", x.dry(1, 5), -2);
    CHECK.due("it was 100", x.dry(0, 50), 100);
    x.pack(1, 1, 0, 100, 0, 49);
    CHECK.due("too dry", x.beat(1, 1), 0);
    x.dry(0, 49);
    CHECK.due("not too dry", x.beat(1, 1), 1);
    CHECK.due("beating leaves the dryness", x.dry(0, 49), 49);
  }

  private static void packNumbers() {
    GoldLeaves x = new GoldLeaves();
    int min = Integer.MIN_VALUE;
    int max = Integer.MAX_VALUE;
    int[][] wrong = {
      {-1, 1, 0, 1, 0, 1}, {3, 1, 0, 1, 0, 1}, {0, 0, 0, 1, 0, 1}, {0, 21, 0, 1, 0, 1},
      {0, 1, -1, 1, 0, 1}, {0, 1, 0, 101, 0, 1}, {0, 1, 2, 1, 0, 1}, {0, 1, 0, 1, -1, 1},
      {0, 1, 0, 1, 0, 101}, {0, 1, 0, 1, 2, 1}, {min, 1, 0, 1, 0, 1}, {max, 1, 0, 1, 0, 1},
      {0, max, 0, 1, 0, 1}, {0, min, 0, 1, 0, 1}, {0, 1, 101, 101, 0, 1}, {0, 1, 0, 1, 101, 101},
      {0, 1, -2, -1, 0, 1}, {0, 1, 0, 1, -2, -1}, {0, 1, 0, max, 0, max}, {0, 1, min, max, min, max},
    };
    x.skin(50);
    for (int[] w : wrong) {
      String call = "pack" + java.util.Arrays.toString(w);
      CHECK.due(call, x.pack(w[0], w[1], w[2], w[3], w[4], w[5]), -1);
    }
    CHECK.due("a refused pack changes nothing", x.beat(0, 3), 3);
    CHECK.due("pack(2, 20, 100, 100, 100, 100)", x.pack(2, 20, 100, 100, 100, 100), 0);
    CHECK.due("pack(0, 1, 0, 0, 0, 0)", x.pack(0, 1, 0, 0, 0, 0), 0);
    CHECK.due("beat(-1, 1)", x.beat(-1, 1), -1);
    CHECK.due("beat(3, 1)", x.beat(3, 1), -1);
    CHECK.due("beat(0, -1)", x.beat(0, -1), -1);
    CHECK.due("beat(0, 21)", x.beat(0, 21), -1);
    CHECK.due("beat(MIN, MAX)", x.beat(Integer.MIN_VALUE, Integer.MAX_VALUE), -1);
    CHECK.due("beat(1, 0)", x.beat(1, 0), 0);
    CHECK.due("age(0)", x.age(0), 3);
  }

  private static void packsAtFirst() {
    for (int sort = 0; sort < 3; sort++) {
      GoldLeaves x = new GoldLeaves();
      CHECK.due("beat without skins", x.beat(sort, 20), 0);
      x.skin(0);
      CHECK.due("beat(" + sort + ", 20) at first", x.beat(sort, 20), 20);
      CHECK.due("age(0)", x.age(0), 20);
      x = new GoldLeaves();
      x.skin(100);
      CHECK.due("beat(" + sort + ", 1) of a dry one", x.beat(sort, 1), 1);
      x.pack((sort + 1) % 3, 2, 0, 100, 0, 100);
      CHECK.due("another sort's need is its own", x.beat(sort, 1), 1);
      CHECK.due("that sort needs two", x.beat((sort + 1) % 3, 1), 0);
    }
  }

  private static void oldestFirst() {
    GoldLeaves x = new GoldLeaves();
    for (int i = 0; i < 4; i++) {
      x.skin(i);
    }
    x.pack(1, 1, 0, 100, 3, 3);
    x.beat(1, 2);
    x.pack(1, 1, 0, 100, 1, 1);
    x.beat(1, 1);
    dueAges(x, 0, 1, 0, 2);
    x.pack(0, 1, 0, 100, 0, 100);
    x.beat(0, 1);
    dueAges(x, 0, 1, 0, 3);
    x.pack(0, 2, 0, 100, 0, 100);
    x.beat(0, 1);
    dueAges(x, 0, 2, 0, 4);
    x.pack(0, 3, 0, 100, 0, 100);
    x.beat(0, 1);
    dueAges(x, 1, 3, 0, 5);
    x.pack(0, 4, 0, 100, 0, 100);
    CHECK.due("all four", x.beat(0, 1), 1);
    dueAges(x, 2, 4, 1, 6);
    x.pack(0, 5, 0, 100, 0, 100);
    CHECK.due("five of four", x.beat(0, 1), 0);
    dueAges(x, 2, 4, 1, 6);
  }

  private static void dueAges(GoldLeaves x, int... ages) {
    for (int i = 0; i < ages.length; i++) {
      CHECK.due("age(" + i + ")", x.age(i), ages[i]);
    }
  }

  private static void packsOneBehindTheOther() {
    GoldLeaves x = new GoldLeaves();
    for (int i = 0; i < 5; i++) {
      x.skin(10);
    }
    x.pack(0, 2, 0, 1, 0, 100);
    // 0 and 1 twice, then 2 and 3 twice; 4 alone is too few.
    CHECK.due("as many as the skins allow", x.beat(0, 20), 4);
    dueAges(x, 2, 2, 2, 2, 0);
    CHECK.due("none any more", x.beat(0, 20), 0);
    dueAges(x, 2, 2, 2, 2, 0);
    x = new GoldLeaves();
    for (int i = 0; i < 3; i++) {
      x.skin(10);
    }
    x.pack(0, 2, 0, 2, 0, 100);
    CHECK.due("three packs asked", x.beat(0, 3), 3);
    dueAges(x, 3, 3, 0);
    CHECK.due("one skin is left", x.beat(0, 1), 0);
    CHECK.due("asked for none", x.beat(1, 0), 0);
  }

  private static void spans() {
    GoldLeaves x = new GoldLeaves();
    x.skin(39);
    x.skin(40);
    x.skin(60);
    x.skin(61);
    x.pack(0, 2, 0, 0, 40, 60);
    CHECK.due("dryness from .. to", x.beat(0, 5), 1);
    dueAges(x, 0, 1, 1, 0);
    x.pack(1, 1, 1, 2, 0, 100);
    CHECK.due("age from .. to", x.beat(1, 20), 4);
    dueAges(x, 0, 3, 3, 0);
    x.pack(2, 2, 0, 2, 0, 100);
    CHECK.due("the younger ones", x.beat(2, 20), 3);
    dueAges(x, 3, 3, 3, 3);
  }

  private static void oldAge() {
    GoldLeaves x = new GoldLeaves();
    x.skin(1);
    for (int i = 0; i < 5; i++) {
      CHECK.due("twenty packs", x.beat(0, 20), 20);
    }
    CHECK.due("age(0)", x.age(0), 100);
    CHECK.due("with 100 packs behind it", x.beat(0, 20), 1);
    CHECK.due("age(0) then", x.age(0), 101);
    CHECK.due("too old", x.beat(0, 20), 0);
    CHECK.due("no skin was used", x.age(0), 101);
  }
}
