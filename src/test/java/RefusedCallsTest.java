import java.util.ArrayList;
import java.util.List;
import java.util.function.ToLongFunction;

/** What a refused call answers, tells and leaves as it was; promises 27 and 28; an object's 512 calls. */
public final class RefusedCallsTest {
  private static final Check CHECK = new Check("RefusedCallsTest");
  private static final int MIN = Check.MIN;
  private static final int MAX = Check.MAX;

  public static void main(String[] args) {
    CHECK.sentence("The first of these in that order. | -1 ahead of -2", RefusedCallsTest::numberAheadOfNoSuch);
    CHECK.sentence("The first of these in that order. | -1 ahead of -3", RefusedCallsTest::numberAheadOfCannotBe);
    CHECK.sentence("The first of these in that order. | -1 ahead of -5", RefusedCallsTest::numberAheadOfNoRoom);
    CHECK.sentence("The first of these in that order. | -2 ahead of -3", RefusedCallsTest::noSuchAheadOfCannotBe);
    CHECK.sentence("The first of these in that order. | -2 ahead of -5", RefusedCallsTest::noSuchAheadOfNoRoom);
    CHECK.sentence("The first of these in that order. | -3 ahead of -5", RefusedCallsTest::cannotBeAheadOfNoRoom);
    CHECK.sentence("-5 no room", RefusedCallsTest::noRoom);
    CHECK.sentence("REFUSED by | what was stays as it was", RefusedCallsTest::whatWasStays);
    CHECK.sentence("NONE | what was stays as it was", RefusedCallsTest::noneLeavesWhatWas);
    CHECK.sentence("was REFUSED by", RefusedCallsTest::latestRefusal);
    CHECK.sentence("0 if it was not", RefusedCallsTest::notRefused);
    CHECK.sentence("or ahead of any.", RefusedCallsTest::aheadOfAny);
    CHECK.sentence("of those that can be REFUSED (with a code above; flatter aside)", RefusedCallsTest::otherCalls);
    CHECK.sentence("NONE for others. | numbers of count", RefusedCallsTest::counts);
    CHECK.sentence("7 grains of all PIECES, 8 bytes of the TAPE | a full house", RefusedCallsTest::countsOfFullHouse);
    CHECK.sentence("-1 a number that can't be | no call throws for any numbers", RefusedCallsTest::wildNumbers);
    CHECK.sentence("at most 512 calls after it has been made", RefusedCallsTest::lastCalls);
    CHECK.finish();
  }

  private record Call(String name, long due, ToLongFunction<GoldLeaves> call) {
  }

  /** PIECES 0 and 1 (a LEAF); SKIN 0. */
  private static GoldLeaves small() {
    GoldLeaves x = Houses.bars(5, 5);
    x.leaf(1, 1);
    x.skin(1);
    return x;
  }

  private static void numberAheadOfNoSuch() {
    CHECK.due("cut(2, 0)", small().cut(2, 0), -1);
    CHECK.due("cut(-1, 0)", small().cut(-1, 0), -1);
    CHECK.due("cut(2, 1)", small().cut(2, 1), -2);
    CHECK.due("dry(1, 101)", small().dry(1, 101), -1);
    CHECK.due("dry(-1, -1)", small().dry(-1, -1), -1);
    CHECK.due("dry(1, 100)", small().dry(1, 100), -2);
    CHECK.due("leaf(2, 0)", small().leaf(2, 0), -1);
    CHECK.due("leaf(-1, 10001)", small().leaf(-1, 10_001), -1);
    CHECK.due("leaf(2, 1)", small().leaf(2, 1), -2);
  }

  private static void numberAheadOfCannotBe() {
    CHECK.due("cut of a leaf, of 0", small().cut(1, 0), -1);
    CHECK.due("cut of a leaf, of 1", small().cut(1, 1), -3);
    CHECK.due("leaf of a leaf, of 0", small().leaf(1, 0), -1);
    CHECK.due("leaf of a leaf, of 10001", small().leaf(1, 10_001), -1);
    CHECK.due("leaf of a leaf, of 10000", small().leaf(1, 10_000), -3);
  }

  private static void numberAheadOfNoRoom() {
    GoldLeaves x = Houses.full();
    CHECK.due("bar(0, ..)", x.bar(0, 0, 0), -1);
    CHECK.due("bar(1000001, ..)", x.bar(1_000_001, 0, 0), -1);
    CHECK.due("bar(1, 1001, 0)", x.bar(1, 1001, 0), -1);
    CHECK.due("bar(1, 500, 501)", x.bar(1, 500, 501), -1);
    CHECK.due("cut(0, 0)", x.cut(0, 0), -1);
    CHECK.due("skin(-1)", x.skin(-1), -1);
    CHECK.due("skin(101)", x.skin(101), -1);
    CHECK.due("pass(4, ..)", x.pass(4, 1, 1, 1), -1);
    CHECK.due("pass(0, 1000001, ..)", x.pass(0, 1_000_001, 1, 1), -1);
    CHECK.due("pass(.., 1001, ..)", x.pass(0, 1, 1001, 1), -1);
    CHECK.due("pass(.., 1001)", x.pass(0, 1, 1, 1001), -1);
    CHECK.due("find(4, ..)", x.find(4, 1, 1), -1);
    CHECK.due("find(.., 1001, ..)", x.find(0, 1001, 1), -1);
    CHECK.due("find(.., 100000001)", x.find(0, 1, 100_000_001), -1);
  }

  private static void noSuchAheadOfCannotBe() {
    CHECK.due("cut(2, MAX)", small().cut(2, MAX), -2);
    CHECK.due("melt(2, 2), no such", small().melt(2, 2), -2);
    CHECK.due("melt(1, 2), a leaf", small().melt(1, 2), -2);
    CHECK.due("melt(2, 1), a leaf", small().melt(2, 1), -2);
    GoldLeaves x = Houses.bars(5, 5);
    x.melt(0, 1);
    CHECK.due("melt(1, 1), gone", x.melt(1, 1), -2);
    CHECK.due("cut(1, 5), gone", x.cut(1, 5), -2);
    CHECK.due("leaf(1, 1), gone", x.leaf(1, 1), -2);
  }

  private static void noSuchAheadOfNoRoom() {
    GoldLeaves x = Houses.full();
    CHECK.due("cut(120, 1)", x.cut(120, 1), -2);
    CHECK.due("cut(-1, 1)", x.cut(-1, 1), -2);
    x.melt(0, 1);
    CHECK.due("cut(1, 1), gone", x.cut(1, 1), -2);
  }

  private static void cannotBeAheadOfNoRoom() {
    GoldLeaves x = Houses.full();
    CHECK.due("cut(1, 1000)", x.cut(1, 1000), -3);
    CHECK.due("cut(1, 999)", x.cut(1, 999), -5);
    CHECK.due("cut(119, 1)", x.cut(119, 1), -3);
    x.leaf(1, 1);
    CHECK.due("cut(1, 999) of a leaf", x.cut(1, 999), -3);
  }

  private static void noRoom() {
    GoldLeaves x = Houses.full();
    CHECK.due("bar", x.bar(1, 0, 0), -5);
    CHECK.due("cut", x.cut(0, 1), -5);
    CHECK.due("skin", x.skin(0), -5);
    CHECK.due("pass", x.pass(0, 1, 1, 1), -5);
    CHECK.due("find", x.find(0, 1, 1), -5);
    CHECK.due("feed", x.feed(0, 0, 0, 0, 0), -1);
    CHECK.due("melt needs no room", x.melt(0, 1), 1890);
    CHECK.due("leaf needs no room", x.leaf(0, 1), 1);
    CHECK.due("dry needs no room", x.dry(59, 1), 50);
  }

  /** Calls on Houses.busy() that are refused, with the code. */
  private static List<Call> refusedCalls() {
    List<Call> calls = new ArrayList<>();
    calls.add(new Call("bar(0, 1, 1)", -1, x -> x.bar(0, 1, 1)));
    calls.add(new Call("bar(1, 500, 501)", -1, x -> x.bar(1, 500, 501)));
    calls.add(new Call("cut(0, 0)", -1, x -> x.cut(0, 0)));
    calls.add(new Call("cut(2, 1)", -2, x -> x.cut(2, 1)));
    calls.add(new Call("cut(6, 1)", -2, x -> x.cut(6, 1)));
    calls.add(new Call("cut(0, 70)", -3, x -> x.cut(0, 70)));
    calls.add(new Call("cut(3, 1)", -3, x -> x.cut(3, 1)));
    calls.add(new Call("melt(0, 2)", -2, x -> x.melt(0, 2)));
    calls.add(new Call("melt(2, 0)", -2, x -> x.melt(2, 0)));
    calls.add(new Call("melt(0, 0)", -3, x -> x.melt(0, 0)));
    calls.add(new Call("melt(0, 3)", -3, x -> x.melt(0, 3)));
    calls.add(new Call("melt(4, 0)", -3, x -> x.melt(4, 0)));
    calls.add(new Call("skin(101)", -1, x -> x.skin(101)));
    calls.add(new Call("dry(1, 101)", -1, x -> x.dry(1, 101)));
    calls.add(new Call("dry(5, 1)", -2, x -> x.dry(5, 1)));
    calls.add(new Call("pack(0, 21, 1, 1, 1, 1)", -1, x -> x.pack(0, 21, 1, 1, 1, 1)));
    calls.add(new Call("pack(0, 1, 2, 1, 1, 1)", -1, x -> x.pack(0, 1, 2, 1, 1, 1)));
    calls.add(new Call("pack(0, 1, 1, 1, 1, 101)", -1, x -> x.pack(0, 1, 1, 1, 1, 101)));
    calls.add(new Call("pack(3, 1, 1, 1, 1, 1)", -1, x -> x.pack(3, 1, 1, 1, 1, 1)));
    calls.add(new Call("beat(0, 21)", -1, x -> x.beat(0, 21)));
    calls.add(new Call("beat(3, 1)", -1, x -> x.beat(3, 1)));
    calls.add(new Call("leaf(0, 0)", -1, x -> x.leaf(0, 0)));
    calls.add(new Call("leaf(2, 1)", -2, x -> x.leaf(2, 1)));
    calls.add(new Call("leaf(3, 1)", -3, x -> x.leaf(3, 1)));
    calls.add(new Call("bind(0)", -1, x -> x.bind(0)));
    calls.add(new Call("bind(51)", -1, x -> x.bind(51)));
    calls.add(new Call("pass(0, 1000001, 0, 0)", -1, x -> x.pass(0, 1_000_001, 0, 0)));
    calls.add(new Call("pass(0, 9, 0, 1001)", -1, x -> x.pass(0, 9, 0, 1001)));
    calls.add(new Call("find(0, 6, -1)", -1, x -> x.find(0, 6, -1)));
    calls.add(new Call("find(0, 1001, 0)", -1, x -> x.find(0, 1001, 0)));
    return calls;
  }

  /** All that a house of Houses.busy() answers, then what new things it gets as numbers. */
  private static long[] answers(GoldLeaves x) {
    List<Long> all = new ArrayList<>();
    for (int i = 0; i <= 8; i++) {
      all.add((long) x.count(i));
    }
    all.add((long) x.fault());
    for (int piece = 0; piece <= 6; piece++) {
      all.add((long) x.weight(piece));
      all.add((long) x.colour(piece));
      all.add((long) x.book(piece));
      all.add((long) x.flatter(piece, 4));
      for (int i = 0; i < 4; i++) {
        all.add((long) x.from(piece, i));
        all.add(x.part(piece, i));
      }
    }
    for (int i = 0; i < 4; i++) {
      all.add((long) x.held(i, 1000, 1000));
      all.add((long) x.held(i, 5, 8));
      all.add((long) x.missing(i, 1000));
    }
    for (int i = 0; i < 6; i++) {
      all.add((long) x.age(i));
      all.add((long) x.dry(i, 20));
    }
    for (int sort = 0; sort < 3; sort++) {
      all.add((long) x.beat(sort, 20));
    }
    for (int i = 0; i < 6; i++) {
      all.add((long) x.age(i));
    }
    all.add((long) x.colours());
    all.add((long) x.fault());
    all.add((long) x.bind(1));
    all.add((long) x.skin(1));
    all.add((long) x.bar(9, 9, 9));
    all.add((long) x.cut(0, 9));
    all.add((long) x.pass(0, 9, 9, 9));
    all.add((long) x.find(0, 9, 9));
    return all.stream().mapToLong(Long::longValue).toArray();
  }

  private static void dueSame(String name, GoldLeaves x) {
    long[] want = answers(Houses.busy());
    long[] got = answers(x);
    for (int i = 0; i < want.length; i++) {
      CHECK.due("answer " + i + " behind " + name, got[i], want[i]);
    }
  }

  private static void whatWasStays() {
    for (Call refused : refusedCalls()) {
      GoldLeaves x = Houses.busy();
      CHECK.due(refused.name, refused.call.applyAsLong(x), refused.due);
      dueSame(refused.name, x);
    }
  }

  private static void noneLeavesWhatWas() {
    GoldLeaves x = Houses.busy();
    CHECK.due("end(5)", x.end(5), -1);
    dueSame("end(5)", x);
    x = Houses.busy();
    CHECK.due("end(-1)", x.end(-1), -1);
    dueSame("end(-1)", x);
    x = Houses.full();
    CHECK.due("feed", x.feed(-1, -1, -1, -1, -1), -1);
    CHECK.due("bytes", x.count(8), 300);
    CHECK.due("they were 0 alone", x.colours(), -6);
    CHECK.due("fault", x.fault(), 0);
  }

  private static void latestRefusal() {
    for (Call refused : refusedCalls()) {
      GoldLeaves x = Houses.busy();
      refused.call.applyAsLong(x);
      CHECK.due("status() behind " + refused.name, x.status(), refused.due);
      CHECK.due("status() again", x.status(), refused.due);
    }
    GoldLeaves x = Houses.full();
    long[] codes = {x.bar(1, 0, 0), x.status(), x.bar(0, 0, 0), x.status(), x.cut(0, 1), x.status(),
      x.cut(120, 1), x.status(), x.skin(0), x.status(), x.cut(0, 1000), x.status(), x.pass(0, 1, 1, 1), x.status(),
      x.colours(), x.status(), x.find(0, 1, 1), x.status()};
    long[] want = {-5, -1, -5, -2, -5, -3, -5, -6, -5};
    for (int i = 0; i < want.length; i++) {
      CHECK.due("refused call " + i, codes[2 * i], want[i]);
      CHECK.due("status() behind it", codes[2 * i + 1], want[i]);
    }
  }

  private static void notRefused() {
    List<Call> calls = new ArrayList<>();
    calls.add(new Call("bar", 6, x -> x.bar(1, 1, 1)));
    calls.add(new Call("cut", 6, x -> x.cut(0, 1)));
    calls.add(new Call("melt", 114, x -> x.melt(0, 1)));
    calls.add(new Call("colours", -6, x -> x.colours()));
    calls.add(new Call("colours of nothing", 0, x -> x.end(0) + x.colours()));
    calls.add(new Call("skin", 5, x -> x.skin(0)));
    calls.add(new Call("dry", 0, x -> x.dry(0, 0)));
    calls.add(new Call("pack", 0, x -> x.pack(0, 1, 0, 0, 0, 0)));
    calls.add(new Call("beat of none", 0, x -> x.beat(0, 0)));
    calls.add(new Call("leaf", 3, x -> x.leaf(0, 1)));
    calls.add(new Call("bind of none", 0, x -> x.bind(50)));
    calls.add(new Call("pass", 3, x -> x.pass(0, -1, 0, 0)));
    calls.add(new Call("find", 2, x -> x.find(0, 0, 0)));
    for (Call call : calls) {
      GoldLeaves x = Houses.busy();
      x.cut(99, 1);
      CHECK.due("status() ahead of " + call.name, x.status(), -2);
      CHECK.due(call.name, call.call.applyAsLong(x), call.due);
      CHECK.due("status() behind " + call.name, x.status(), Math.min(call.due, 0));
    }
  }

  private static void aheadOfAny() {
    GoldLeaves x = new GoldLeaves();
    CHECK.due("status() at first", x.status(), 0);
    callOthers(x);
    CHECK.due("status() behind others alone", x.status(), 0);
  }

  /** Calls without a code of refusal, flatter among them, each with an answer below 0, too. */
  private static long callOthers(GoldLeaves x) {
    long sum = x.weight(-1) + x.from(-1, 0) + x.part(-1, 0) + x.end(-1) + x.end(301) + x.fault()
        + x.colour(-1) + x.age(-1) + x.flatter(-1, -1) + x.book(-1) + x.surface(0, 0, 0, 0)
        + x.held(-1, 0, 0) + x.missing(-1, 0) + x.count(-1) + x.count(9);
    for (int i = 0; i < 16; i++) {
      sum += x.feed(0, 0, 0, 0, 0);
    }
    return sum + x.weight(0) + x.from(0, 0) + x.part(0, 0) + x.end(0) + x.colour(0) + x.age(0) + x.flatter(0, 0)
        + x.book(0) + x.surface(1, 1, 1, 0) + x.held(0, 0, 0) + x.missing(0, 0) + x.count(0) + x.status();
  }

  private static void otherCalls() {
    int[] codes = {-1, -2, -3, -6, 0};
    for (int code : codes) {
      GoldLeaves x = Houses.busy();
      switch (code) {
        case -1 -> x.bind(0);
        case -2 -> x.cut(99, 1);
        case -3 -> x.melt(0, 0);
        case -6 -> x.colours();
        default -> x.skin(0);
      }
      CHECK.due("status()", x.status(), code);
      callOthers(x);
      CHECK.due("status() behind others", x.status(), code);
    }
    GoldLeaves x = Houses.full();
    x.skin(0);
    callOthers(x);
    CHECK.due("status() of a full house", x.status(), -5);
  }

  private static void counts() {
    CHECK.edges("count(n)", n -> Houses.busy().count(n), MIN, -1, -1, -1, 0, 3, 1, 5, 2, 6, 3, 2, 4, 1, 5, 5, 6, 2,
        7, 175, 8, 4, 9, -1, MAX, -1);
  }

  private static void countsOfFullHouse() {
    CHECK.edges("count(n)", n -> Houses.full().count(n), 0, 10, 1, 120, 2, 120, 3, 0, 4, 0, 5, 60, 6, 0,
        7, 10_000, 8, 300);
    GoldLeaves x = Houses.leaves(120);
    x.bind(1);
    CHECK.due("leaves", x.count(3), 120);
    CHECK.due("books", x.count(4), 120);
  }

  private static void wildNumbers() {
    int[] wild = {MIN, MIN + 1, -1_000_000_000, -2, -1, 0, 1, 60, 120, 1001, 1_000_000_000, MAX - 1, MAX};
    for (int a : wild) {
      for (int b : wild) {
        GoldLeaves x = Houses.busy();
        for (int c : new int[] {MIN, -1, 0, 1, MAX}) {
          long sum = x.bar(a, b, c) + x.cut(a, b) + x.melt(a, b) + x.weight(a) + x.from(a, b) + x.part(a, b)
              + x.feed(a, b, c, a, b) + x.end(a) + x.colours() + x.fault() + x.colour(a) + x.skin(a) + x.dry(a, b)
              + x.age(a) + x.pack(a, b, c, a, b, c) + x.pack(0, 1, a, b, b, c) + x.beat(a, b) + x.leaf(a, b)
              + x.flatter(a, b) + x.bind(a) + x.book(a) + x.surface(a, b, c, a) + x.surface(1, 1, a, b)
              + x.pass(a, b, c, a) + x.pass(0, 0, a, b) + x.held(a, b, c) + x.find(a, b, c) + x.find(0, 0, a)
              + x.missing(a, b) + x.count(a);
          CHECK.holds("a code or 0 (sum " + sum + ")", x.status() <= 0 && x.status() >= -6);
        }
        CHECK.holds("grains stay whole", x.count(7) >= 175);
      }
    }
  }

  private static void lastCalls() {
    GoldLeaves x = new GoldLeaves();
    CHECK.due("call 1", x.skin(0), 0);
    for (int call = 2; call <= 512; call++) {
      CHECK.due("call " + call, x.dry(0, (call - 1) % 101), (call - 2) % 101);
    }
    x = Houses.full();
    for (int call = 457; call < 512; call++) {
      CHECK.due("call " + call, x.cut(0, 1), -5);
    }
    CHECK.due("call 512", x.count(7), 10_000);
  }
}
