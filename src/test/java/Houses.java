/** Houses in states that tests begin with; none of them takes more than 512 calls. */
final class Houses {
  private Houses() {
  }

  /** PIECE 0 has so many grains from each BAR; the other BARS' PIECES are gone. */
  static GoldLeaves melted(int... grains) {
    GoldLeaves x = bars(grains);
    for (int i = 1; i < grains.length; i++) {
      x.melt(0, i);
    }
    return x;
  }

  /** BARS of gold alone, of so many grains each. */
  static GoldLeaves bars(int... grains) {
    GoldLeaves x = new GoldLeaves();
    for (int g : grains) {
      x.bar(g, 1000, 0);
    }
    return x;
  }

  /** One BAR, cut into so many PIECES: all but PIECE 0 of one grain. */
  static GoldLeaves pieces(int many) {
    GoldLeaves x = bars(1000);
    for (int i = 1; i < many; i++) {
      x.cut(0, 1);
    }
    return x;
  }

  /** PIECES 0 .. many - 1, all of them LEAVES of AREA 1. */
  static GoldLeaves leaves(int many) {
    GoldLeaves x = pieces(many);
    for (int i = 0; i < many; i++) {
      x.leaf(i, 1);
    }
    return x;
  }

  static GoldLeaves skins(int many, int dryness) {
    GoldLeaves x = new GoldLeaves();
    for (int i = 0; i < many; i++) {
      x.skin(dryness);
    }
    return x;
  }

  /** A TAPE of n bytes (0 .. 300), all of them 0. */
  static GoldLeaves tape(int n) {
    GoldLeaves x = new GoldLeaves();
    for (int have = 0; have < n; have += 20) {
      x.feed(0, 0, 0, 0, 0);
    }
    x.end(n);
    return x;
  }

  /** No room for BARS, PIECES, SKINS, bytes, what PASSED or what is FOUND; 456 calls. */
  static GoldLeaves full() {
    GoldLeaves x = tape(300);
    for (int i = 0; i < 10; i++) {
      x.bar(1000, 1000, 0);
    }
    for (int i = 10; i < 120; i++) {
      x.cut(0, 1);
    }
    for (int i = 0; i < 60; i++) {
      x.skin(50);
      x.find(0, 5, 7);
    }
    for (int i = 0; i < 200; i++) {
      x.pass(0, 1, 5, 5);
    }
    return x;
  }

  /** Something of everything: BARS 0 .. 2, PIECES 0 .. 5 (2 gone, 3 a LEAF in BOOK 0, 4 a LEAF). */
  static GoldLeaves busy() {
    GoldLeaves x = new GoldLeaves();
    x.bar(100, 900, 100);
    x.bar(50, 500, 300);
    x.bar(25, 0, 1000);
    x.cut(0, 30);
    x.melt(1, 2);
    x.leaf(3, 400);
    x.bind(1);
    x.cut(1, 20);
    x.leaf(4, 90);
    x.cut(1, 11);
    Texts.colours(x, "red: gold 800 to 1000; pale: silver 300 to 600, copper 0 to 200");
    Texts.write(x, "left");
    for (int i = 0; i < 5; i++) {
      x.skin(10 * i);
    }
    x.pack(0, 2, 0, 9, 10, 30);
    x.beat(0, 3);
    x.pass(0, 100, 3, 4);
    x.pass(1, 40, 5, 9);
    x.find(0, 6, 70);
    return x;
  }
}
