import java.util.Random;

/** Long runs of mixed calls, right ones and wild ones: each answer is held against PlainHouse. */
public final class ModelTest {
  private static final int RUNS = 12_000;
  // The document promises nothing behind an object's 512th call; the dearest step has twenty.
  private static final int CALLS = 512 - 20;
  private static final int[] WILD = {
    Integer.MIN_VALUE, Integer.MIN_VALUE + 1, -1_000_000_001, -1_000_001, -1_000_000, -2, -1, 0, 1, 2, 3, 4,
    9, 10, 11, 20, 21, 50, 51, 59, 60, 61, 99, 100, 101, 119, 120, 121, 200, 201, 255, 256, 300, 1000, 1001,
    10_000, 10_001, 1_000_000, 1_000_001, 100_000_000, 100_000_001, Integer.MAX_VALUE - 1, Integer.MAX_VALUE,
  };
  private static final String[] WORDS = {
    "gold", "silver", "copper", "to", "a", "b", "red", "0", "1", "500", "1000", "1001", "007", "300", "700",
    ":", ",", ";", " ", "  ", "A", "\t", "(", "\u00e9", "\u0000", "99999999999",
  };
  private static final String[] METALS = {"gold", "silver", "copper"};

  private final Check check;
  private final Random random;
  private final GoldLeaves x = new GoldLeaves();
  private final PlainHouse plain = new PlainHouse();
  // Some runs stay within one part of the house, so that its limits are reached.
  private final int first;
  private final int last;
  private int used = 0;

  private ModelTest(Check check, int run) {
    this.check = check;
    this.random = new Random(run);
    int[][] parts = {{0, 27}, {0, 6}, {0, 2}, {0, 21}, {5, 10}, {11, 15}, {22, 25}, {22, 24}};
    int[] part = parts[run % parts.length];
    this.first = part[0];
    this.last = part[1];
  }

  public static void main(String[] args) {
    Check check = new Check("ModelTest");
    for (int run = 0; run < RUNS && check.isClean(); run++) {
      ModelTest test = new ModelTest(check, run);
      while (test.used < CALLS && check.isClean()) {
        test.step("run " + run + ", call " + test.used + ": ");
      }
    }
    check.finish();
  }

  private int pick(int low, int high) {
    return random.nextInt(40) == 0 ? WILD[random.nextInt(WILD.length)] : low + random.nextInt(high - low + 1);
  }

  private int piece() {
    return pick(-1, Math.min(119, Math.max(3, (int) plain.count(2))));
  }

  private int near(int limit) {
    return random.nextInt(3) == 0 ? pick(0, limit) : pick(0, Math.min(limit, 12));
  }

  private void due(String call, long got, long want) {
    used++;
    check.due(call, got, want);
  }

  private void step(String at) {
    call(at, first + random.nextInt(last - first + 1));
    if (random.nextInt(3) == 0) {
      due(at + "status()", x.status(), plain.status());
    }
  }

  private void call(String at, int which) {
    if (which < 11) {
      metalCall(at, which);
    } else if (which < 22) {
      skinAndLeafCall(at, which);
    } else {
      doorCall(at, which);
    }
  }

  private void metalCall(String at, int which) {
    int a = piece();
    int b = piece();
    int n = near(1000);
    int m = pick(-1, 3);
    switch (which) {
      case 0 -> {
        int grains = random.nextBoolean() ? pick(1, 60) : pick(0, 1_000_000);
        int gold = pick(0, 1000);
        int silver = pick(0, Math.max(0, Math.min(1000, 1001 - Math.max(0, Math.min(gold, 1000)))));
        due(at + "bar", x.bar(grains, gold, silver), plain.bar(grains, gold, silver));
      }
      case 1 -> due(at + "cut " + a + " " + n, x.cut(a, n), plain.cut(a, n));
      case 2 -> due(at + "melt " + a + " " + b, x.melt(a, b), plain.melt(a, b));
      case 3 -> due(at + "weight " + a, x.weight(a), plain.weight(a));
      case 4 -> {
        int bar = pick(-1, (int) plain.count(0));
        due(at + "from " + a + " " + bar, x.from(a, bar), plain.from(a, bar));
      }
      case 5 -> due(at + "part " + a + " " + m, x.part(a, m), plain.part(a, m));
      case 6 -> due(at + "colour " + a, x.colour(a), plain.colour(a));
      case 7 -> {
        int[] f = {random.nextInt(), random.nextInt(), pick(0, 9), random.nextInt(), random.nextInt()};
        due(at + "feed", x.feed(f[0], f[1], f[2], f[3], f[4]), plain.feed(f));
      }
      case 8 -> {
        int to = pick(-1, (int) plain.count(8) + 1);
        due(at + "end " + to, x.end(to), plain.end(to));
      }
      default -> newColours(at);
    }
  }

  private void newColours(String at) {
    if (random.nextInt(4) > 0) {
      due(at + "end 0", x.end(0), plain.end(0));
    }
    String text = text();
    for (int i = 0; i < text.length(); i += 20) {
      int[] f = Texts.five(text, i);
      due(at + "feed", x.feed(f[0], f[1], f[2], f[3], f[4]), plain.feed(f));
    }
    due(at + "end", x.end(text.length()), plain.end(text.length()));
    due(at + "colours '" + text + "'", x.colours(), plain.colours());
    due(at + "fault '" + text + "'", x.fault(), plain.fault());
  }

  private String text() {
    StringBuilder text = new StringBuilder();
    int colours = random.nextInt(3) == 0 ? random.nextInt(12) : random.nextInt(4);
    for (int i = 0; i < colours; i++) {
      text.append(i == 0 ? "" : ";").append((char) ('a' + i)).append(blank()).append(":");
      int tests = random.nextInt(8) == 0 ? random.nextInt(31) : 1 + random.nextInt(3);
      for (int t = 0; t < tests; t++) {
        int low = random.nextInt(5) * 150;
        int high = Math.min(low + random.nextInt(1000), 1000);
        text.append(t == 0 ? "" : ",").append(blank()).append(METALS[random.nextInt(3)]).append(blank());
        text.append(low).append(blank()).append("to").append(blank()).append(high).append(blank());
      }
    }
    int spoils = random.nextInt(3) == 0 ? 1 + random.nextInt(2) : 0;
    for (int i = 0; i < spoils; i++) {
      int at = random.nextInt(text.length() + 1);
      int to = Math.min(text.length(), at + random.nextInt(4));
      text.replace(at, to, WORDS[random.nextInt(WORDS.length)]);
    }
    return text.length() > 300 ? text.substring(0, 300) : text.toString();
  }

  private String blank() {
    return random.nextInt(6) == 0 ? " " : "";
  }

  private void skinAndLeafCall(String at, int which) {
    int a = piece();
    int b = piece();
    int skin = pick(-1, Math.min(60, (int) plain.count(5)));
    int n = pick(0, 21);
    switch (which) {
      case 11 -> due(at + "skin", x.skin(n * 5), plain.skin(n * 5));
      case 12 -> due(at + "dry " + skin, x.dry(skin, n * 5), plain.dry(skin, n * 5));
      case 13 -> due(at + "age " + skin, x.age(skin), plain.age(skin));
      case 14 -> {
        int sort = pick(-1, 3);
        int[] p = {near(20), near(20), near(100), near(20), pick(30, 100)};
        due(at + "pack", x.pack(sort, p[0], p[1], p[2], p[3], p[4]), plain.pack(sort, p));
      }
      case 15 -> {
        int sort = pick(0, 2);
        due(at + "beat " + sort + " " + n, x.beat(sort, n), plain.beat(sort, n));
      }
      case 16 -> {
        int area = random.nextBoolean() ? pick(1, 12) : pick(0, 10_001);
        due(at + "leaf " + a, x.leaf(a, area), plain.leaf(a, area));
      }
      case 17 -> due(at + "flatter " + a + " " + b, x.flatter(a, b), plain.flatter(a, b));
      case 18 -> due(at + "bind " + n, x.bind(n), plain.bind(n));
      case 19 -> due(at + "book " + a, x.book(a), plain.book(a));
      case 20 -> {
        int[] s = {near(10_001), near(10_001), near(201), near(200)};
        due(at + "surface", x.surface(s[0], s[1], s[2], s[3]), plain.surface(s[0], s[1], s[2], s[3]));
      }
      default -> due(at + "count", x.count(1), plain.count(1));
    }
  }

  private void doorCall(String at, int which) {
    int room = pick(-1, 4);
    int hour = near(1001);
    int known = near(1001);
    switch (which) {
      case 22 -> {
        int grains = random.nextBoolean() ? pick(-20, 60) : pick(-1_000_000, 1_000_000);
        due(at + "pass", x.pass(room, grains, hour, known), plain.pass(room, grains, hour, known));
      }
      case 23 -> due(at + "held", x.held(room, hour, known), plain.held(room, hour, known));
      case 24 -> {
        int grains = random.nextBoolean() ? pick(0, 60) : pick(0, 2_000_000);
        due(at + "find", x.find(room, hour, grains), plain.find(room, hour, grains));
      }
      case 25 -> due(at + "missing", x.missing(room, known), plain.missing(room, known));
      default -> {
        int what = pick(-1, 9);
        due(at + "count " + what, x.count(what), plain.count(what));
      }
    }
  }
}
