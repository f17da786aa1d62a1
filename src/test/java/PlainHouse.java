import java.util.ArrayList;
import java.util.Comparator;
import java.util.HashSet;
import java.util.List;
import java.util.Set;
import java.util.regex.Matcher;
import java.util.regex.Pattern;

/**
 * A second house, written from the document in other ways than the class (sorted lists, regular
 * expressions, a table of states), so that a slip in one of them shows as a difference.
 */
final class PlainHouse {
  private static final class Lump {
    long[] grains = new long[10];
    int area = 0;
    int book = -1;
    boolean gone = false;

    long weight() {
      long sum = 0;
      for (long g : grains) {
        sum += g;
      }
      return sum;
    }
  }

  private static final class Hide {
    final int number;
    int dryness;
    int age = 0;

    Hide(int number, int dryness) {
      this.number = number;
      this.dryness = dryness;
    }
  }

  private final List<int[]> bars = new ArrayList<>();
  private final List<Lump> lumps = new ArrayList<>();
  private final List<Hide> hides = new ArrayList<>();
  private final int[][] needs = {{1, 0, 100, 0, 100}, {1, 0, 100, 0, 100}, {1, 0, 100, 0, 100}};
  private final List<int[]> passed = new ArrayList<>();
  private final List<int[]> found = new ArrayList<>();
  private List<List<int[]>> colours = new ArrayList<>();
  private String tape = "";
  private int fault = -1;
  private int books = 0;
  private int status = 0;

  private int note(long answer) {
    status = (int) Math.min(answer, 0);
    return (int) answer;
  }

  private Lump lump(int number) {
    boolean there = number >= 0 && number < lumps.size() && !lumps.get(number).gone;
    return there ? lumps.get(number) : null;
  }

  int bar(int grains, int gold, int silver) {
    long copper = 1000L - gold - silver;
    if (grains < 1 || grains > 1000000 || gold < 0 || silver < 0 || copper < 0) {
      return note(-1);
    }
    if (bars.size() == 10 || lumps.size() == 120) {
      return note(-5);
    }
    Lump fresh = new Lump();
    fresh.grains[bars.size()] = grains;
    bars.add(new int[] {gold, silver, (int) copper});
    lumps.add(fresh);
    return note(lumps.size() - 1);
  }

  int cut(int piece, int n) {
    Lump old = lump(piece);
    if (n < 1) {
      return note(-1);
    }
    if (old == null) {
      return note(-2);
    }
    long w = old.weight();
    if (n >= w || old.area > 0) {
      return note(-3);
    }
    if (lumps.size() == 120) {
      return note(-5);
    }
    Lump fresh = new Lump();
    List<Integer> order = new ArrayList<>();
    for (int i = 0; i < 10; i++) {
      fresh.grains[i] = Math.floorDiv(old.grains[i] * n, w);
      order.add(i);
    }
    order.sort(Comparator.comparingLong(i -> -Math.floorMod(old.grains[i] * n, w)));
    int left = (int) (n - fresh.weight());
    order.subList(0, left).forEach(i -> fresh.grains[i]++);
    for (int i = 0; i < 10; i++) {
      old.grains[i] -= fresh.grains[i];
    }
    lumps.add(fresh);
    return note(lumps.size() - 1);
  }

  int melt(int a, int b) {
    Lump pot = lump(a);
    Lump lump = lump(b);
    if (pot == null || lump == null) {
      return note(-2);
    }
    if (a == b || pot.area + lump.area > 0) {
      return note(-3);
    }
    for (int i = 0; i < 10; i++) {
      pot.grains[i] += lump.grains[i];
    }
    lump.gone = true;
    return note(pot.weight());
  }

  long weight(int piece) {
    return lump(piece) == null ? -1 : lump(piece).weight();
  }

  long from(int piece, int bar) {
    return lump(piece) == null || bar < 0 || bar >= bars.size() ? -1 : lump(piece).grains[bar];
  }

  long part(int piece, int metal) {
    if (lump(piece) == null || metal < 0 || metal > 2) {
      return -1;
    }
    long sum = 0;
    for (int i = 0; i < bars.size(); i++) {
      sum += lump(piece).grains[i] * bars.get(i)[metal];
    }
    return sum;
  }

  int feed(int... five) {
    if (tape.length() + 20 > 300) {
      return -1;
    }
    StringBuilder text = new StringBuilder(tape);
    for (byte b : java.nio.ByteBuffer.allocate(20).putInt(five[0]).putInt(five[1]).putInt(five[2])
        .putInt(five[3]).putInt(five[4]).array()) {
      text.append((char) (b & 255));
    }
    tape = text.toString();
    return tape.length();
  }

  int end(int n) {
    if (n < 0 || n > tape.length()) {
      return -1;
    }
    tape = tape.substring(0, n);
    return n;
  }

  int colours() {
    String text = tape;
    tape = "";
    List<List<int[]>> fresh = new ArrayList<>();
    fault = text.matches(" *") ? -1 : readColours(text, fresh);
    if (fault >= 0) {
      return note(-6);
    }
    colours = fresh;
    return note(colours.size());
  }

  /** States: 0 name, 1 colon, 2 metal, 3 number, 4 "to", 5 number, 6 comma or semicolon or end. */
  private static int readColours(String text, List<List<int[]>> fresh) {
    Set<String> names = new HashSet<>();
    int state = 0;
    int tests = 0;
    int[] test = null;
    Matcher tokens = Pattern.compile("[a-z]+|[0-9]+|[^ ]", Pattern.DOTALL).matcher(text);
    while (tokens.find()) {
      String token = tokens.group();
      boolean good;
      switch (state) {
        case 0 -> {
          good = fresh.size() < 10 && token.matches("[a-z]+") && names.add(token);
          fresh.add(new ArrayList<>());
        }
        case 1 -> good = token.equals(":");
        case 2 -> {
          test = new int[] {List.of("gold", "silver", "copper").indexOf(token), 0, 0};
          tests++;
          good = test[0] >= 0 && tests <= 30;
        }
        case 4 -> good = token.equals("to");
        case 3, 5 -> {
          String number = token.matches("[0-9]+") ? token.replaceFirst("^0+(?=.)", "") : "9999";
          test[state == 3 ? 1 : 2] = number.length() > 4 ? 9999 : Integer.parseInt(number);
          good = test[1] <= 1000 && (state == 3 || test[2] <= 1000 && test[2] >= test[1]);
        }
        default -> good = token.equals(",") || token.equals(";");
      }
      if (!good) {
        return tokens.start();
      }
      if (state == 5) {
        fresh.get(fresh.size() - 1).add(test);
      }
      state = state < 6 ? state + 1 : token.equals(",") ? 2 : 0;
    }
    return state == 6 ? -1 : text.length();
  }

  int fault() {
    return fault;
  }

  int colour(int piece) {
    if (lump(piece) == null) {
      return -1;
    }
    long w = lump(piece).weight();
    for (int i = 0; i < colours.size(); i++) {
      if (colours.get(i).stream().allMatch(t -> t[1] * w <= part(piece, t[0]) && part(piece, t[0]) <= t[2] * w)) {
        return i;
      }
    }
    return -1;
  }

  int skin(int dryness) {
    if (dryness < 0 || dryness > 100) {
      return note(-1);
    }
    if (hides.size() == 60) {
      return note(-5);
    }
    hides.add(new Hide(hides.size(), dryness));
    return note(hides.size() - 1);
  }

  int dry(int skin, int dryness) {
    if (dryness < 0 || dryness > 100) {
      return note(-1);
    }
    if (skin < 0 || skin >= hides.size()) {
      return note(-2);
    }
    int before = hides.get(skin).dryness;
    hides.get(skin).dryness = dryness;
    return note(before);
  }

  int age(int skin) {
    return skin < 0 || skin >= hides.size() ? -1 : hides.get(skin).age;
  }

  int pack(int sort, int... need) {
    boolean good = sort >= 0 && sort <= 2 && need[0] >= 1 && need[0] <= 20;
    for (int i = 1; i < 5; i++) {
      good &= need[i] >= 0 && need[i] <= 100;
    }
    if (!good || need[2] < need[1] || need[4] < need[3]) {
      return note(-1);
    }
    needs[sort] = need;
    return note(0);
  }

  int beat(int sort, int packs) {
    if (sort < 0 || sort > 2 || packs < 0 || packs > 20) {
      return note(-1);
    }
    int[] need = needs[sort];
    for (int done = 0; done < packs; done++) {
      List<Hide> suit = new ArrayList<>(hides);
      suit.removeIf(h -> h.age < need[1] || h.age > need[2] || h.dryness < need[3] || h.dryness > need[4]);
      if (suit.size() < need[0]) {
        return note(done);
      }
      suit.sort(Comparator.<Hide>comparingInt(h -> -h.age).thenComparingInt(h -> h.number));
      suit.subList(0, need[0]).forEach(h -> h.age++);
    }
    return note(packs);
  }

  private List<Lump> leaves() {
    return lumps.stream().filter(l -> l.area > 0).toList();
  }

  int leaf(int piece, int area) {
    if (area < 1 || area > 10000) {
      return note(-1);
    }
    if (lump(piece) == null) {
      return note(-2);
    }
    if (lump(piece).area > 0) {
      return note(-3);
    }
    lump(piece).area = area;
    return note(leaves().size());
  }

  int flatter(int a, int b) {
    if (lump(a) == null || lump(b) == null || lump(a).area == 0 || lump(b).area == 0) {
      return -2;
    }
    return Long.signum(lump(a).area * lump(b).weight() - lump(b).area * lump(a).weight());
  }

  int bind(int n) {
    if (n < 1 || n > 50) {
      return note(-1);
    }
    int before = books;
    List<Lump> loose = new ArrayList<>(leaves());
    loose.removeIf(l -> l.book >= 0);
    while (loose.size() >= n) {
      for (int i = 0; i < n; i++) {
        loose.remove(0).book = books;
      }
      books++;
    }
    return note(books - before);
  }

  int book(int piece) {
    return lump(piece) == null ? -1 : lump(piece).book;
  }

  long surface(int a, int b, int s, int o) {
    if (a < 1 || b < 1 || a > 10000 || b > 10000 || s < 1 || s > 200 || o < 0 || o >= s) {
      return -1;
    }
    return laid(a, s, o) * laid(b, s, o);
  }

  /** Lays one leaf behind the other until the side is covered. */
  private static long laid(int side, int s, int o) {
    long many = 1;
    for (int covered = s; covered < side; covered += s - o) {
      many++;
    }
    return many;
  }

  private static boolean hour(int h) {
    return h >= 0 && h <= 1000;
  }

  int pass(int door, int grains, int hour, int known) {
    if (door < 0 || door > 3 || Math.abs((long) grains) > 1000000 || !hour(hour) || !hour(known)) {
      return note(-1);
    }
    if (passed.size() == 200) {
      return note(-5);
    }
    passed.add(new int[] {door, grains, hour, known});
    return note(passed.size());
  }

  int held(int room, int hour, int known) {
    if (room < 0 || room > 3 || !hour(hour) || !hour(known)) {
      return -1000000000;
    }
    return passed.stream().filter(p -> p[2] <= hour && p[3] <= known)
        .mapToInt(p -> p[0] == room ? p[1] : p[0] == room + 1 ? -p[1] : 0).sum();
  }

  int find(int room, int hour, int grains) {
    if (room < 0 || room > 3 || !hour(hour) || grains < 0 || grains > 100000000) {
      return note(-1);
    }
    if (found.size() == 60) {
      return note(-5);
    }
    found.add(new int[] {room, hour, grains});
    return note(found.size());
  }

  int missing(int room, int known) {
    if (!hour(known)) {
      return -1;
    }
    return found.stream().filter(f -> f[0] == room && f[1] <= known && f[2] < held(room, f[1], known))
        .mapToInt(f -> f[1]).min().orElse(-1);
  }

  long count(int what) {
    return switch (what) {
      case 0 -> bars.size();
      case 1 -> lumps.stream().filter(l -> !l.gone).count();
      case 2 -> lumps.size();
      case 3 -> leaves().size();
      case 4 -> books;
      case 5 -> hides.size();
      case 6 -> colours.size();
      case 7 -> lumps.stream().filter(l -> !l.gone).mapToLong(Lump::weight).sum();
      case 8 -> tape.length();
      default -> -1;
    };
  }

  int status() {
    return status;
  }
}
