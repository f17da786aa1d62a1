/** Promises 8 to 12: feed, end, colours, fault, colour. */
public final class ColoursTest {
  private static final Check CHECK = new Check("ColoursTest");

  public static void main(String[] args) {
    feeding();
    byteOrder();
    ending();
    goodTexts();
    faults();
    bytesOutsideTheLanguage();
    colourLimit();
    testLimit();
    coloursStay();
    suiting();
    suitingEdges();
    CHECK.finish();
  }

  private static void feeding() {
    GoldLeaves x = new GoldLeaves();
    for (int i = 1; i <= 15; i++) {
      CHECK.due("feed " + i, x.feed(0, -1, Integer.MIN_VALUE, Integer.MAX_VALUE, i), 20 * i);
    }
    CHECK.due("a sixteenth feed", x.feed(0, 0, 0, 0, 0), -1);
    CHECK.due("the tape is as it was", x.count(8), 300);
    CHECK.due("end(281)", x.end(281), 281);
    CHECK.due("301 bytes", x.feed(0, 0, 0, 0, 0), -1);
    CHECK.due("end(280)", x.end(280), 280);
    CHECK.due("300 bytes", x.feed(0, 0, 0, 0, 0), 300);
  }

  private static void byteOrder() {
    GoldLeaves x = new GoldLeaves();
    // "a:go", "ld 0", " to ", "1000", "    "
    CHECK.due("feed", x.feed(0x613A676F, 0x6C642030, 0x20746F20, 0x31303030, 0x20202020), 20);
    CHECK.due("highest byte first", x.colours(), 1);
    CHECK.due("the tape is empty", x.count(8), 0);
    x.feed(0x613A676F, 0x6C642030, 0x20746F20, 0x31303030, 0xE1202020);
    CHECK.due("a byte above 127", x.colours(), -6);
    CHECK.due("its place", x.fault(), 16);
  }

  private static void ending() {
    GoldLeaves x = new GoldLeaves();
    CHECK.due("end(0) of nothing", x.end(0), 0);
    CHECK.due("end(1) of nothing", x.end(1), -1);
    CHECK.due("end(-1)", x.end(-1), -1);
    CHECK.due("end(MIN)", x.end(Integer.MIN_VALUE), -1);
    x.feed(0, 0, 0, 0, 0);
    CHECK.due("end(21)", x.end(21), -1);
    CHECK.due("bytes", x.count(8), 20);
    CHECK.due("end(20)", x.end(20), 20);
    CHECK.due("end(7)", x.end(7), 7);
    CHECK.due("end(8) then", x.end(8), -1);
    CHECK.due("bytes then", x.count(8), 7);
    CHECK.due("feed behind it", x.feed(0, 0, 0, 0, 0), 27);
    CHECK.due("end(0)", x.end(0), 0);
    CHECK.due("bytes in the end", x.count(8), 0);
    Texts.write(x, "a:gold 1 to 2,copper");
    CHECK.due("end ahead of the comma", x.end(13), 13);
    CHECK.due("only the first bytes are read", x.colours(), 1);
  }

  private static void good(String text, int many) {
    GoldLeaves x = new GoldLeaves();
    CHECK.due("colours of '" + text + "'", Texts.colours(x, text), many);
    CHECK.due("count(6) of '" + text + "'", x.count(6), many);
    CHECK.due("fault of '" + text + "'", x.fault(), -1);
    CHECK.due("status of '" + text + "'", x.status(), 0);
    CHECK.due("tape behind '" + text + "'", x.count(8), 0);
  }

  private static void goodTexts() {
    good("", 0);
    good(" ", 0);
    good(" ".repeat(300), 0);
    good("a:gold 0 to 0", 1);
    good("a:gold0to1000", 1);
    good("  a  :  gold  0  to  1000  ", 1);
    good("a:gold 7 to 7,silver 0 to 1,copper 999 to 1000", 1);
    good("a:gold 1 to 2,gold 1 to 2", 1);
    good("a:gold 1 to 2;b:gold 1 to 2", 2);
    good("gold:gold 1 to 2;to:silver 1 to 2;copper:copper 1 to 2", 3);
    good("a:gold 1 to 2;aa:gold 1 to 2;ab:gold 1 to 2;ba:gold 1 to 2", 4);
    good("a:gold 0000000000000000000000001 to 00000000000000000001000", 1);
    good("z".repeat(287) + ":gold 0 to 0", 1);
  }

  private static void bad(String text, int place) {
    GoldLeaves x = new GoldLeaves();
    CHECK.due("colours of '" + text + "'", Texts.colours(x, text), -6);
    CHECK.due("fault of '" + text + "'", x.fault(), place);
    CHECK.due("status of '" + text + "'", x.status(), -6);
    CHECK.due("tape behind '" + text + "'", x.count(8), 0);
  }

  private static void faults() {
    bad("a", 1);
    bad("a   ", 4);
    bad("a:", 2);
    bad("a:gold", 6);
    bad("a:gold ", 7);
    bad("a:gold 1", 8);
    bad("a:gold 1 to", 11);
    bad("a:gold 1 to 2,", 14);
    bad("a:gold 1 to 2;", 14);
    bad("a:gold 1 to 2; ", 15);
    bad("5:gold 1 to 2", 0);
    bad("  ;", 2);
    bad(":gold 1 to 2", 0);
    bad("a:gold 1 to 2;:gold 1 to 2", 14);
    bad("a b:gold 1 to 2", 2);
    bad("a5:gold 1 to 2", 1);
    bad("a;gold 1 to 2", 1);
    bad("a::gold 1 to 2", 2);
    bad("a:tin 1 to 2", 2);
    bad("a:golds 1 to 2", 2);
    bad("a:gol 1 to 2", 2);
    bad("a:gold to 2", 7);
    bad("a:gold 1 2", 9);
    bad("a:gold 1 too 2", 9);
    bad("a:gold 1 t 2", 9);
    bad("a:gold 1 to to", 12);
    bad("a:gold -1 to 2", 7);
    bad("a:gold 1001 to 1002", 7);
    bad("a:gold 1 to 1001", 12);
    bad("a:gold 4294967297 to 5", 7);
    bad("a:gold 1 to 18446744073709551617", 12);
    bad("a:gold 3 to 2", 12);
    bad("a:gold 1000 to 0", 15);
    bad("a:gold 1 to 2 b:gold 1 to 2", 14);
    bad("a:gold 1 to 2:", 13);
    bad("a:gold 1 to 2 3", 14);
    bad("a:gold 1 to 2,b:gold 1 to 2", 14);
    bad("a:gold 1 to 2;;b:gold 1 to 2", 14);
    bad("a:gold 1 to 2; a :gold 1 to 2", 15);
    bad("aa:gold 1 to 2;b:gold 1 to 2;aa", 29);
    bad("a:gold 1 to 2;b:gold 1 to 2;c:gold 1 to 2;b;", 42);
    bad("z".repeat(300), 300);
  }

  private static void bytesOutsideTheLanguage() {
    bad("A:gold 1 to 2", 0);
    bad("a\t:gold 1 to 2", 1);
    bad("\na:gold 1 to 2", 0);
    bad("a:gold 1 to 2\n", 13);
    bad("a:gold 1 to 2" + (char) 0, 13);
    bad("a" + (char) 160 + ":gold 1 to 2", 1);
    bad("a`:gold 1 to 2", 1);
    bad("a{:gold 1 to 2", 1);
    bad("a:gold /1 to 2", 7);
    bad("a:gold 1: to 2", 8);
    bad("a:gold " + (char) 0xB9 + " to 2", 7);
    bad("" + (char) 255, 0);
  }

  private static String manyColours(int many) {
    StringBuilder text = new StringBuilder();
    for (int i = 0; i < many; i++) {
      text.append(i == 0 ? "" : ";").append((char) ('a' + i)).append(":gold 1 to 2");
    }
    return text.toString();
  }

  private static void colourLimit() {
    String ten = manyColours(10);
    good(ten, 10);
    bad(ten + ";", 140);
    bad(ten + "; ", 141);
    bad(ten + ";k", 140);
    bad(ten + "; k:gold 1 to 2", 141);
    bad(ten + ";a", 140);
    bad(ten + ";:gold 1 to 2", 140);
    bad(ten + " k", 140);
  }

  private static String manyTests(int many) {
    return "gold1to2,".repeat(many).substring(0, 9 * many - 1);
  }

  private static void testLimit() {
    String thirty = "a:" + manyTests(30);
    good(thirty, 1);
    good("a:" + manyTests(15) + ";b:" + manyTests(15), 2);
    bad(thirty + ",", 272);
    bad(thirty + ",gold1to2", 272);
    bad(thirty + ", gold", 273);
    bad(thirty + ";b", 273);
    bad(thirty + ";b:", 274);
    bad(thirty + ";b:gold1to2", 274);
    bad(thirty + ";a:gold1to2", 272);
  }

  private static void coloursStay() {
    GoldLeaves x = new GoldLeaves();
    x.bar(10, 500, 500);
    CHECK.due("two colours", Texts.colours(x, "a:gold 0 to 499;b:gold 500 to 500"), 2);
    CHECK.due("colour(0)", x.colour(0), 1);
    CHECK.due("a faulty text", Texts.colours(x, "x:gold 0 to 1000;y:gold"), -6);
    CHECK.due("its fault", x.fault(), 23);
    CHECK.due("the colours stay", x.count(6), 2);
    CHECK.due("colour(0) then", x.colour(0), 1);
    CHECK.due("the fault stays told", x.fault(), 23);
    x.feed(0, 0, 0, 0, 0);
    CHECK.due("feeding leaves the fault", x.fault(), 23);
    x.end(0);
    CHECK.due("another good text", Texts.colours(x, "c:silver 1 to 1000"), 1);
    CHECK.due("no fault", x.fault(), -1);
    CHECK.due("colour(0) of the new ones", x.colour(0), 0);
    CHECK.due("a second faulty text", Texts.colours(x, "7"), -6);
    CHECK.due("colour(0) as before", x.colour(0), 0);
    CHECK.due("an empty tape", x.colours(), 0);
    CHECK.due("none is left", x.colour(0), -1);
    CHECK.due("fault of an empty tape", x.fault(), -1);
  }

  private static void suiting() {
    GoldLeaves x = new GoldLeaves();
    x.bar(10, 650, 200);
    x.bar(10, 1000, 0);
    CHECK.due("without colours", x.colour(0), -1);
    Texts.colours(x, "a:gold 600 to 700,silver 0 to 100;b:copper 150 to 150;c:gold 0 to 1000;d:gold 0 to 1000");
    CHECK.due("one of two tests fails", x.colour(0), 1);
    CHECK.due("the first that suits", x.colour(1), 2);
    CHECK.due("colour(2)", x.colour(2), -1);
    CHECK.due("colour(-1)", x.colour(-1), -1);
    x.melt(1, 0);
    CHECK.due("of a gone piece", x.colour(0), -1);
    CHECK.due("of the melted one", x.colour(1), 2);
    x.leaf(1, 4);
    CHECK.due("of a leaf", x.colour(1), 2);
    Texts.colours(x, "a:gold 0 to 10");
    CHECK.due("none suits", x.colour(1), -1);
  }

  private static void suitingEdges() {
    GoldLeaves x = new GoldLeaves();
    x.bar(2, 500, 0);
    x.bar(1, 501, 0);
    x.melt(0, 1);
    // 1501 thousandths of 3 grains: between 500 and 501 of a thousand.
    CHECK.due("part", x.part(0, 0), 1501);
    dueColour(x, "a:gold 500 to 501", 0);
    dueColour(x, "a:gold 501 to 502", -1);
    dueColour(x, "a:gold 499 to 500", -1);
    x = new GoldLeaves();
    x.bar(3, 500, 200);
    dueColour(x, "a:gold 500 to 500", 0);
    dueColour(x, "a:gold 501 to 501", -1);
    dueColour(x, "a:gold 499 to 499", -1);
    dueColour(x, "a:silver 200 to 300", 0);
    dueColour(x, "a:silver 100 to 200", 0);
    dueColour(x, "a:copper 300 to 300", 0);
    dueColour(x, "a:copper 200 to 200", -1);
    x = new GoldLeaves();
    for (int i = 0; i < 10; i++) {
      x.bar(1_000_000, 900, 100);
    }
    for (int i = 1; i < 10; i++) {
      x.melt(0, i);
    }
    dueColour(x, "a:gold 901 to 1000", -1);
    dueColour(x, "a:gold 900 to 1000", 0);
  }

  private static void dueColour(GoldLeaves x, String text, int want) {
    CHECK.due("colours of '" + text + "'", Texts.colours(x, text), 1);
    CHECK.due("colour(0) by '" + text + "'", x.colour(0), want);
  }
}
