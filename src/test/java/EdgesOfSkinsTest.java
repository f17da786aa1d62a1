/** Terms III (SKINS and PACKS) and promises 13 to 17, sentence by sentence. */
public final class EdgesOfSkinsTest {
  private static final Check CHECK = new Check("EdgesOfSkinsTest");
  private static final int MIN = Check.MIN;
  private static final int MAX = Check.MAX;

  public static void main(String[] args) {
    CHECK.sentence("SKINS 0 .. 59 (60 at most)", EdgesOfSkinsTest::sixtySkins);
    CHECK.sentence("DRYNESS 0 .. 100", EdgesOfSkinsTest::dryness);
    CHECK.sentence("DRYNESS of a SKIN: what it was.", EdgesOfSkinsTest::whatItWas);
    CHECK.sentence("-2 there is no such PIECE (or it is gone), SKIN", EdgesOfSkinsTest::noSuchSkin);
    CHECK.sentence("AGE (packs that they were in; 0 at first)", EdgesOfSkinsTest::agesAtFirst);
    CHECK.sentence("AGE of a SKIN; NONE.", EdgesOfSkinsTest::ageNumbers);
    CHECK.sentence("PACKS of sorts 0 .. 2", EdgesOfSkinsTest::sorts);
    CHECK.sentence("each needs so many SKINS (1 .. 20)", EdgesOfSkinsTest::skinsOfPacks);
    CHECK.sentence("of AGE from .. to (0 .. 100)", EdgesOfSkinsTest::ageSpans);
    CHECK.sentence("DRYNESS from .. to", EdgesOfSkinsTest::drynessSpans);
    CHECK.sentence("1, 0 .. 100, 0 .. 100 at first", EdgesOfSkinsTest::needsAtFirst);
    CHECK.sentence("how many PACKS (0 .. 20 asked)", EdgesOfSkinsTest::packsAsked);
    CHECK.sentence("as long as there are SKINS", EdgesOfSkinsTest::asLongAsThereAreSkins);
    CHECK.sentence("one behind the other", EdgesOfSkinsTest::oneBehindTheOther);
    CHECK.sentence("the SKINS that suit | AGE", EdgesOfSkinsTest::suitingAges);
    CHECK.sentence("the SKINS that suit | DRYNESS", EdgesOfSkinsTest::suitingDryness);
    CHECK.sentence("the oldest first", EdgesOfSkinsTest::oldestFirst);
    CHECK.sentence("of alike ones the lower", EdgesOfSkinsTest::alikeOnes);
    CHECK.sentence("each is one older then", EdgesOfSkinsTest::oneOlder);
    CHECK.finish();
  }

  private static void sixtySkins() {
    GoldLeaves x = new GoldLeaves();
    CHECK.due("the first", x.skin(7), 0);
    for (int i = 1; i < 59; i++) {
      x.skin(7);
    }
    CHECK.due("the sixtieth", x.skin(7), 59);
    CHECK.due("one more", x.skin(7), -5);
    CHECK.due("skins", x.count(5), 60);
    CHECK.due("age(59)", x.age(59), 0);
    CHECK.due("age(60)", x.age(60), -1);
    CHECK.due("dry(59, 1)", x.dry(59, 1), 7);
    CHECK.due("dry(60, 1)", x.dry(60, 1), -2);
    x.pack(0, 1, 0, 100, 1, 1);
    CHECK.due("the sixtieth in a pack", x.beat(0, 1), 1);
    CHECK.due("age(59) then", x.age(59), 1);
  }

  private static void dryness() {
    CHECK.edges("skin(n)", n -> new GoldLeaves().skin(n),
        MIN, -1, -1, -1, 0, 0, 1, 0, 99, 0, 100, 0, 101, -1, MAX, -1);
    CHECK.edges("dry(0, n)", n -> Houses.skins(1, 50).dry(0, n),
        MIN, -1, -1, -1, 0, 50, 1, 50, 99, 50, 100, 50, 101, -1, MAX, -1);
    GoldLeaves x = new GoldLeaves();
    x.skin(-1);
    x.skin(101);
    CHECK.due("none was made", x.count(5), 0);
  }

  private static void whatItWas() {
    GoldLeaves x = Houses.skins(1, 0);
    CHECK.due("dry(0, 100)", x.dry(0, 100), 0);
    CHECK.due("dry(0, 101)", x.dry(0, 101), -1);
    CHECK.due("dry(0, -1)", x.dry(0, -1), -1);
    CHECK.due("dry(0, 0)", x.dry(0, 0), 100);
    CHECK.due("dry(0, 0) again", x.dry(0, 0), 0);
  }

  private static void noSuchSkin() {
    CHECK.edges("dry(n, 1) of 3", n -> Houses.skins(3, 50).dry(n, 1),
        MIN, -2, -1, -2, 0, 50, 2, 50, 3, -2, 59, -2, 60, -2, MAX, -2);
    CHECK.edges("dry(n, 1) of none", n -> new GoldLeaves().dry(n, 1), -1, -2, 0, -2);
    CHECK.edges("dry(n, 1) of 60", n -> Houses.skins(60, 50).dry(n, 1), -1, -2, 0, 50, 59, 50, 60, -2);
  }

  private static void agesAtFirst() {
    GoldLeaves x = Houses.skins(60, 50);
    CHECK.due("age(0)", x.age(0), 0);
    CHECK.due("age(59)", x.age(59), 0);
    x = Houses.skins(1, 50);
    x.beat(0, 20);
    x.skin(50);
    CHECK.due("a later one", x.age(1), 0);
  }

  private static void ageNumbers() {
    CHECK.edges("age(n) of 3", n -> Houses.skins(3, 50).age(n),
        MIN, -1, -1, -1, 0, 0, 2, 0, 3, -1, 59, -1, 60, -1, MAX, -1);
    CHECK.edges("age(n) of none", n -> new GoldLeaves().age(n), -1, -1, 0, -1);
  }

  private static void sorts() {
    CHECK.edges("pack(n, ..)", n -> new GoldLeaves().pack(n, 1, 0, 0, 0, 0),
        MIN, -1, -1, -1, 0, 0, 1, 0, 2, 0, 3, -1, MAX, -1);
    CHECK.edges("beat(n, 1)", n -> Houses.skins(1, 50).beat(n, 1),
        MIN, -1, -1, -1, 0, 1, 1, 1, 2, 1, 3, -1, MAX, -1);
    for (int sort = 0; sort < 3; sort++) {
      GoldLeaves x = Houses.skins(1, 50);
      x.pack(sort, 2, 0, 100, 0, 100);
      for (int other = 0; other < 3; other++) {
        CHECK.due("beat(" + other + ", 1)", x.beat(other, 1), other == sort ? 0 : 1);
      }
    }
  }

  private static void skinsOfPacks() {
    CHECK.edges("pack(0, n, ..)", n -> new GoldLeaves().pack(0, n, 0, 100, 0, 100),
        MIN, -1, -1, -1, 0, -1, 1, 0, 20, 0, 21, -1, MAX, -1);
    CHECK.edges("packs of 20 from n", n -> beatenOf(n, 20), 0, 0, 19, 0, 20, 1, 21, 1);
    CHECK.edges("packs of 1 from n", n -> beatenOf(n, 1), 0, 0, 1, 1, 2, 1);
    CHECK.edges("packs of 2 from n", n -> beatenOf(n, 2), 1, 0, 2, 1, 3, 1);
  }

  private static int beatenOf(int skins, int need) {
    GoldLeaves x = Houses.skins(skins, 50);
    x.pack(0, need, 0, 100, 0, 100);
    return x.beat(0, 1);
  }

  private static void ageSpans() {
    CHECK.edges("pack(0, 1, n, 100, ..)", n -> new GoldLeaves().pack(0, 1, n, 100, 0, 100),
        MIN, -1, -1, -1, 0, 0, 1, 0, 100, 0, 101, -1, MAX, -1);
    CHECK.edges("pack(0, 1, 0, n, ..)", n -> new GoldLeaves().pack(0, 1, 0, n, 0, 100),
        MIN, -1, -1, -1, 0, 0, 99, 0, 100, 0, 101, -1, MAX, -1);
    CHECK.edges("pack(0, 1, n, n, ..)", n -> new GoldLeaves().pack(0, 1, n, n, 0, 100),
        MIN, -1, -1, -1, 0, 0, 50, 0, 100, 0, 101, -1, MAX, -1);
    CHECK.edges("pack(0, 1, 50, n, ..)", n -> new GoldLeaves().pack(0, 1, 50, n, 0, 100),
        49, -1, 50, 0, 51, 0);
  }

  private static void drynessSpans() {
    CHECK.edges("pack(.., n, 100)", n -> new GoldLeaves().pack(0, 1, 0, 100, n, 100),
        MIN, -1, -1, -1, 0, 0, 1, 0, 100, 0, 101, -1, MAX, -1);
    CHECK.edges("pack(.., 0, n)", n -> new GoldLeaves().pack(0, 1, 0, 100, 0, n),
        MIN, -1, -1, -1, 0, 0, 99, 0, 100, 0, 101, -1, MAX, -1);
    CHECK.edges("pack(.., n, n)", n -> new GoldLeaves().pack(0, 1, 0, 100, n, n),
        MIN, -1, -1, -1, 0, 0, 50, 0, 100, 0, 101, -1, MAX, -1);
    CHECK.edges("pack(.., 50, n)", n -> new GoldLeaves().pack(0, 1, 0, 100, 50, n),
        49, -1, 50, 0, 51, 0);
  }

  private static void needsAtFirst() {
    for (int sort = 0; sort < 3; sort++) {
      CHECK.due("one skin, the wettest", Houses.skins(1, 0).beat(sort, 1), 1);
      CHECK.due("one skin, the driest", Houses.skins(1, 100).beat(sort, 1), 1);
      GoldLeaves x = Houses.skins(2, 50);
      x.beat(sort, 1);
      CHECK.due("no second skin is needed", x.age(0) + x.age(1), 1);
      x = old(99);
      CHECK.due("from age 99 to 101", x.beat(sort, 3), 2);
      CHECK.due("age(0)", x.age(0), 101);
    }
  }

  /** One SKIN of DRYNESS 50 that was in so many PACKS (of sort 1, whose need is as at first). */
  private static GoldLeaves old(int age) {
    GoldLeaves x = Houses.skins(1, 50);
    for (int left = age; left > 0; left -= 20) {
      x.beat(1, Math.min(left, 20));
    }
    return x;
  }

  private static void packsAsked() {
    CHECK.edges("beat(0, n)", n -> Houses.skins(1, 50).beat(0, n),
        MIN, -1, -1, -1, 0, 0, 1, 1, 19, 19, 20, 20, 21, -1, MAX, -1);
    CHECK.edges("beat(0, n) without skins", n -> new GoldLeaves().beat(0, n), -1, -1, 0, 0, 20, 0, 21, -1);
    GoldLeaves x = Houses.skins(1, 50);
    x.beat(0, 0);
    x.beat(0, 21);
    x.beat(0, -1);
    x.beat(3, 1);
    CHECK.due("no pack, no age", x.age(0), 0);
  }

  private static void asLongAsThereAreSkins() {
    GoldLeaves x = Houses.skins(3, 50);
    x.pack(0, 2, 0, 4, 0, 100);
    CHECK.due("beat(0, 20)", x.beat(0, 20), 5);
    CHECK.due("the third is too few", x.age(2), 0);
    CHECK.due("beat(0, 20) again", x.beat(0, 20), 0);
    CHECK.due("a pack that is not whole ages none", x.age(2), 0);
    CHECK.due("those that were used", x.age(0), 5);
    x = Houses.skins(1, 50);
    x.pack(0, 1, 0, 19, 0, 100);
    CHECK.due("just as many as asked", x.beat(0, 20), 20);
    CHECK.due("none behind them", x.beat(0, 1), 0);
  }

  private static void oneBehindTheOther() {
    GoldLeaves x = Houses.skins(2, 50);
    x.pack(0, 1, 0, 1, 0, 100);
    // 0 twice, until it is too old; then 1 twice.
    CHECK.due("beat(0, 3)", x.beat(0, 3), 3);
    CHECK.due("age(0)", x.age(0), 2);
    CHECK.due("age(1)", x.age(1), 1);
    CHECK.due("beat(0, 20)", x.beat(0, 20), 1);
    CHECK.due("age(1) then", x.age(1), 2);
  }

  private static int beatenAtAge(int age, int from, int to) {
    GoldLeaves x = old(age);
    x.pack(0, 1, from, to, 0, 100);
    return x.beat(0, 1);
  }

  private static void suitingAges() {
    CHECK.edges("at age n, 3 to 5", n -> beatenAtAge(n, 3, 5), 2, 0, 3, 1, 5, 1, 6, 0);
    CHECK.edges("at age n, 0 to 0", n -> beatenAtAge(n, 0, 0), 0, 1, 1, 0);
    CHECK.edges("at age n, 0 to 100", n -> beatenAtAge(n, 0, 100), 0, 1, 100, 1, 101, 0);
    CHECK.edges("at age n, 100 to 100", n -> beatenAtAge(n, 100, 100), 99, 0, 100, 1, 101, 0);
  }

  private static int beatenAtDryness(int dryness, int from, int to) {
    GoldLeaves x = Houses.skins(1, dryness);
    x.pack(0, 1, 0, 100, from, to);
    return x.beat(0, 1);
  }

  private static void suitingDryness() {
    CHECK.edges("at dryness n, 40 to 60", n -> beatenAtDryness(n, 40, 60), 39, 0, 40, 1, 60, 1, 61, 0);
    CHECK.edges("at dryness n, 0 to 0", n -> beatenAtDryness(n, 0, 0), 0, 1, 1, 0);
    CHECK.edges("at dryness n, 100 to 100", n -> beatenAtDryness(n, 100, 100), 99, 0, 100, 1);
    CHECK.edges("at dryness n, 0 to 100", n -> beatenAtDryness(n, 0, 100), 0, 1, 100, 1);
    GoldLeaves x = Houses.skins(1, 10);
    x.pack(0, 1, 0, 100, 11, 100);
    CHECK.due("too wet", x.beat(0, 1), 0);
    x.dry(0, 11);
    CHECK.due("dried", x.beat(0, 1), 1);
  }

  /** Four SKINS whose AGES are 0, 2, 1, 2. */
  private static GoldLeaves fourSkins() {
    GoldLeaves x = new GoldLeaves();
    int[] ages = {0, 2, 1, 2};
    for (int i = 0; i < 4; i++) {
      x.skin(i);
      x.pack(2, 1, 0, 100, i, i);
      x.beat(2, ages[i]);
    }
    return x;
  }

  private static void dueAges(GoldLeaves x, int... ages) {
    for (int i = 0; i < ages.length; i++) {
      CHECK.due("age(" + i + ")", x.age(i), ages[i]);
    }
  }

  private static void oldestFirst() {
    GoldLeaves x = fourSkins();
    dueAges(x, 0, 2, 1, 2);
    x.pack(0, 3, 0, 100, 0, 100);
    x.beat(0, 1);
    dueAges(x, 0, 3, 2, 3);
    x = fourSkins();
    x.pack(0, 1, 0, 1, 0, 100);
    x.beat(0, 1);
    dueAges(x, 0, 2, 2, 2);
  }

  private static void alikeOnes() {
    GoldLeaves x = fourSkins();
    x.beat(0, 1);
    dueAges(x, 0, 3, 1, 2);
    x = Houses.skins(60, 50);
    x.pack(0, 20, 0, 0, 0, 100);
    CHECK.due("beat(0, 20)", x.beat(0, 1), 1);
    CHECK.due("age(0)", x.age(0), 1);
    CHECK.due("age(19)", x.age(19), 1);
    CHECK.due("age(20)", x.age(20), 0);
    CHECK.due("all sixty", x.beat(0, 20), 2);
    CHECK.due("age(59)", x.age(59), 1);
  }

  private static void oneOlder() {
    GoldLeaves x = fourSkins();
    x.pack(0, 4, 0, 100, 0, 100);
    CHECK.due("all four", x.beat(0, 1), 1);
    dueAges(x, 1, 3, 2, 3);
    x.pack(0, 5, 0, 100, 0, 100);
    CHECK.due("one too few", x.beat(0, 1), 0);
    dueAges(x, 1, 3, 2, 3);
    CHECK.due("the oldest that there is", old(101).age(0), 101);
    CHECK.due("is not beaten with any more", old(102).age(0), 101);
  }
}
