/** Terms II and promises 8 to 12, sentence by sentence: the last that is taken, the first that is not. */
public final class EdgesOfColoursTest {
  private static final Check CHECK = new Check("EdgesOfColoursTest");
  private static final int MIN = Check.MIN;
  private static final int MAX = Check.MAX;
  // What may follow stands in mayGoOn, by the places in this row.
  private static final String[] GOOD = {
    "a", ":", "gold", "1", "to", "2", ",", "silver", "3", "to", "4", ";", "b", ":", "copper", "5", "to", "6",
  };
  private static final String[] TOKENS = {":", ",", ";", "to", "gold", "x", "7", "1001", "!", "A"};

  public static void main(String[] args) {
    CHECK.sentence("NONE, if there would be more than 300.", EdgesOfColoursTest::fullTape);
    CHECK.sentence("four of each number, the highest first", EdgesOfColoursTest::everyByteItsPlace);
    CHECK.sentence("NONE, if it has not so many, or n is below 0.", EdgesOfColoursTest::ends);
    CHECK.sentence("The TAPE has its first n bytes alone", EdgesOfColoursTest::firstBytesAlone);
    CHECK.sentence("The TAPE, which is empty then", EdgesOfColoursTest::tapeIsEmptyThen);
    CHECK.sentence("(blanks alone: none)", EdgesOfColoursTest::blanksAlone);
    CHECK.sentence("a TEXT of at most 300 bytes", EdgesOfColoursTest::longestTexts);
    CHECK.sentence("any blanks (32) between TOKENS", EdgesOfColoursTest::blanks);
    CHECK.sentence("longest rows of letters a .. z", EdgesOfColoursTest::letters);
    CHECK.sentence("of digits, single other bytes | digits", EdgesOfColoursTest::digits);
    CHECK.sentence("single other bytes", EdgesOfColoursTest::otherBytes);
    CHECK.sentence("COLOUR {\";\" COLOUR}", EdgesOfColoursTest::rowsOfColours);
    CHECK.sentence("NAME \":\" TEST {\",\" TEST}", EdgesOfColoursTest::rowsOfTests);
    CHECK.sentence("NAME: one word", EdgesOfColoursTest::names);
    CHECK.sentence("a NAME told again that TOKEN", EdgesOfColoursTest::namesToldAgain);
    CHECK.sentence("(\"gold\" | \"silver\" | \"copper\")", EdgesOfColoursTest::metals);
    CHECK.sentence("NUMBER \"to\" NUMBER (to 1000,", EdgesOfColoursTest::numbersToThousand);
    CHECK.sentence("the second not below the first", EdgesOfColoursTest::secondNotBelowFirst);
    CHECK.sentence("FAULT: the first TOKEN that can't go on there", EdgesOfColoursTest::everyWrongToken);
    CHECK.sentence("the end's: the TEXT's length", EdgesOfColoursTest::everyEarlyEnd);
    CHECK.sentence("10 COLOURS, 30 TESTS at most (FAULT at the first TOKEN of one more) | COLOURS",
        EdgesOfColoursTest::tenColours);
    CHECK.sentence("10 COLOURS, 30 TESTS at most (FAULT at the first TOKEN of one more) | TESTS",
        EdgesOfColoursTest::thirtyTests);
    CHECK.sentence("-6: they stay", EdgesOfColoursTest::coloursStay);
    CHECK.sentence("FAULT of the latest colours(): its place; NONE without.", EdgesOfColoursTest::latestFault);
    CHECK.sentence("NUMBER times WEIGHT <= that metal's part", EdgesOfColoursTest::lowEdge);
    CHECK.sentence("that metal's part <= the second NUMBER times WEIGHT", EdgesOfColoursTest::highEdge);
    CHECK.sentence("the first COLOUR all of whose TESTS hold", EdgesOfColoursTest::firstColour);
    CHECK.sentence("COLOUR of a PIECE, by its number; NONE.", EdgesOfColoursTest::colourNumbers);
    CHECK.finish();
  }

  private static void good(String text, int many) {
    GoldLeaves x = new GoldLeaves();
    CHECK.due("colours of '" + text + "'", Texts.colours(x, text), many);
    CHECK.due("count(6) of '" + text + "'", x.count(6), many);
    CHECK.due("fault of '" + text + "'", x.fault(), -1);
  }

  private static void bad(String text, int place) {
    GoldLeaves x = new GoldLeaves();
    CHECK.due("colours of '" + text + "'", Texts.colours(x, text), -6);
    CHECK.due("fault of '" + text + "'", x.fault(), place);
    CHECK.due("count(6) of '" + text + "'", x.count(6), 0);
  }

  private static void fullTape() {
    CHECK.edges("feed behind n bytes", n -> Houses.tape(n).feed(0, 0, 0, 0, 0),
        0, 20, 1, 21, 279, 299, 280, 300, 281, -1, 299, -1, 300, -1);
    GoldLeaves x = Houses.tape(281);
    x.feed(-1, -1, -1, -1, -1);
    CHECK.due("bytes as they were", x.count(8), 281);
    CHECK.due("end(281)", x.end(281), 281);
    CHECK.due("end(282)", x.end(282), -1);
    x = new GoldLeaves();
    for (int i = 0; i < 15; i++) {
      x.feed(0x20202020, 0x20202020, 0x20202020, 0x20202020, 0x20202020);
    }
    CHECK.due("a sixteenth feed", x.feed(0, 0, 0, 0, 0), -1);
    CHECK.due("the bytes are as they were, too", x.colours(), 0);
  }

  /** Blanks with one other byte, which is the FAULT and so tells where it has come to. */
  private static void everyByteItsPlace() {
    for (int place = 0; place < 20; place++) {
      for (int value : new int[] {0, 1, 31, 33, 127, 128, 255}) {
        GoldLeaves x = new GoldLeaves();
        String text = " ".repeat(place) + (char) value + " ".repeat(19 - place);
        int[] n = Texts.five(text, 0);
        CHECK.due("feed", x.feed(n[0], n[1], n[2], n[3], n[4]), 20);
        CHECK.due("colours", x.colours(), -6);
        CHECK.due("place of byte " + value, x.fault(), place);
      }
    }
    GoldLeaves x = new GoldLeaves();
    x.feed(0x20202020, 0x20202020, 0x20202020, 0x20202020, 0x20202020);
    x.feed(0x20202020, 0x20202020, 0x20202020, 0x20202020, 0x20202080);
    x.colours();
    CHECK.due("behind what was there", x.fault(), 39);
  }

  private static void ends() {
    CHECK.edges("end(n) of 20", n -> Houses.tape(20).end(n),
        MIN, -1, -1, -1, 0, 0, 1, 1, 19, 19, 20, 20, 21, -1, MAX, -1);
    CHECK.edges("end(n) of 0", n -> Houses.tape(0).end(n), MIN, -1, -1, -1, 0, 0, 1, -1, MAX, -1);
    CHECK.edges("end(n) of 300", n -> Houses.tape(300).end(n), -1, -1, 0, 0, 299, 299, 300, 300, 301, -1);
    GoldLeaves x = Houses.tape(20);
    x.end(21);
    CHECK.due("bytes behind end(21)", x.count(8), 20);
    x.end(-1);
    CHECK.due("bytes behind end(-1)", x.count(8), 20);
    x.end(5);
    CHECK.due("what is cut off is gone", x.end(6), -1);
  }

  private static void firstBytesAlone() {
    GoldLeaves x = new GoldLeaves();
    Texts.write(x, "a:gold 1 to 25");
    CHECK.due("end(13)", x.end(13), 13);
    CHECK.due("feed behind it", x.feed(0x2C676F6C, 0x64302074, 0x6F393939, 0x20202020, 0x20202020), 33);
    CHECK.due("colours of 'a:gold 1 to 2,gold0 to999'", x.colours(), 1);
    Texts.write(x, "a:gold 1 to 2!");
    x.end(13);
    CHECK.due("without the fault", x.colours(), 1);
    Texts.write(x, "a:gold 1 to 2");
    x.end(12);
    CHECK.due("without the number", x.colours(), -6);
    CHECK.due("the end is where it was set", x.fault(), 12);
    Texts.write(x, "a");
    CHECK.due("end(0)", x.end(0), 0);
    CHECK.due("nothing is left", x.colours(), 0);
  }

  private static void tapeIsEmptyThen() {
    GoldLeaves x = new GoldLeaves();
    Texts.colours(x, "a:gold 1 to 2");
    CHECK.due("bytes behind a good text", x.count(8), 0);
    Texts.colours(x, "a:gold 1 to");
    CHECK.due("bytes behind a bad text", x.count(8), 0);
    CHECK.due("end(1)", x.end(1), -1);
    CHECK.due("feed", x.feed(0, 0, 0, 0, 0), 20);
    x.colours();
    CHECK.due("colours of an empty tape", x.colours(), 0);
  }

  private static void blanksAlone() {
    good("", 0);
    good(" ", 0);
    good(" ".repeat(299), 0);
    good(" ".repeat(300), 0);
    bad(" ".repeat(299) + "a", 300);
    bad(" ".repeat(299) + ";", 299);
    GoldLeaves x = Houses.bars(1);
    Texts.colours(x, "a:gold 0 to 1000");
    CHECK.due("colour(0)", x.colour(0), 0);
    CHECK.due("blanks", Texts.colours(x, " "), 0);
    CHECK.due("the old ones are no more", x.colour(0), -1);
    CHECK.due("count(6)", x.count(6), 0);
    CHECK.due("status()", x.status(), 0);
  }

  private static void longestTexts() {
    good("z".repeat(288) + ":gold0 to 0", 1);
    good("a:gold 0 to 0" + " ".repeat(287), 1);
    good(" ".repeat(287) + "a:gold 0 to 0", 1);
    bad("z".repeat(300), 300);
    bad("a:gold 0 to 0" + " ".repeat(286) + ";", 300);
    bad("a:gold 0 to 0" + " ".repeat(286) + ":", 299);
  }

  private static void blanks() {
    good("a:gold0to0,silver0to0;b:copper0to0", 2);
    good("   a   :   gold   0   to   0   ,   silver   0   to   0   ;   b   :   copper   0   to   0   ", 2);
    for (int value : new int[] {0, 9, 10, 13, 31, 33, 95, 160, 255}) {
      bad("a" + (char) value + ":gold 0 to 0", 1);
      bad((char) value + "a:gold 0 to 0", 0);
      bad("a:gold 0 to 0" + (char) value, 13);
    }
    bad("a:go ld 0 to 0", 2);
    bad("a:gold 0 t o 0", 9);
    bad("a:gold 1 0 to 20", 9);
    bad("a:gold 1 to 2 0", 14);
  }

  private static void letters() {
    good("a:gold 0 to 0;z:gold 0 to 0;az:gold 0 to 0;za:gold 0 to 0", 4);
    bad("`:gold 0 to 0", 0);
    bad("{:gold 0 to 0", 0);
    bad("a`:gold 0 to 0", 1);
    bad("a{:gold 0 to 0", 1);
    bad("A:gold 0 to 0", 0);
    bad("Z:gold 0 to 0", 0);
    bad("aZ:gold 0 to 0", 1);
    bad("a:goldto 0 to 0", 2);
    bad("a:gold 0 too 0", 9);
    bad("a:gold 0 to 0b:gold 0 to 0", 13);
  }

  private static void digits() {
    good("a:gold 09 to 90", 1);
    bad("a:gold / to 0", 7);
    bad("a:gold : to 0", 7);
    bad("a:gold 0/ to 0", 8);
    bad("a:gold 9: to 9", 8);
    bad("a:gold 0 to 0/", 13);
    bad("a:gold 0 to 9:", 13);
    bad("a0:gold 0 to 0", 1);
    bad("0a:gold 0 to 0", 0);
    bad("a:gold 999 to 9990", 14);
  }

  private static void otherBytes() {
    bad("a::gold 0 to 0", 2);
    bad("a:gold 0 to 0;;b:gold 0 to 0", 14);
    bad("a:gold 0 to 0,,gold 0 to 0", 14);
    bad("a:gold 0 to 0;,", 14);
    bad("a:gold -1 to 0", 7);
    bad("a:gold 0.5 to 1", 8);
    bad("" + (char) 128, 0);
    bad("a" + (char) 225 + ":gold 0 to 0", 1);
  }

  private static void rowsOfColours() {
    good("a:gold 0 to 0", 1);
    good("a:gold 0 to 0;b:gold 0 to 0", 2);
    bad(";", 0);
    bad(";a:gold 0 to 0", 0);
    bad("a:gold 0 to 0;", 14);
    bad("a:gold 0 to 0;;", 14);
    bad("a:gold 0 to 0 b:gold 0 to 0", 14);
  }

  private static void rowsOfTests() {
    good("a:gold 0 to 0,gold 0 to 0", 1);
    bad("a", 1);
    bad("a:", 2);
    bad("a:;b:gold 0 to 0", 2);
    bad("a:,gold 0 to 0", 2);
    bad("a:gold 0 to 0,", 14);
    bad("a:gold 0 to 0,;", 14);
    bad("a gold 0 to 0", 2);
    bad("a:gold 0 to 0 gold 0 to 0", 14);
  }

  private static void names() {
    good("gold:gold 0 to 0;silver:gold 0 to 0;copper:gold 0 to 0;to:gold 0 to 0", 4);
    bad(":gold 0 to 0", 0);
    bad("a b:gold 0 to 0", 2);
    bad("7:gold 0 to 0", 0);
    bad("a:gold 0 to 0;7:gold 0 to 0", 14);
  }

  private static void namesToldAgain() {
    bad("a:gold 0 to 0;a:gold 0 to 0", 14);
    bad("a:gold 0 to 0; a", 15);
    bad("a:gold 0 to 0;b:gold 0 to 0;a:gold 0 to 0", 28);
    bad("a:gold 0 to 0;b:gold 0 to 0;b:gold 0 to 0", 28);
    bad("abc:gold 0 to 0;abc:gold 0 to 0", 16);
    bad("d:gold 0 to 0;abc:gold 0 to 0;abc", 30);
    good("abc:gold 0 to 0;abd:gold 0 to 0;adc:gold 0 to 0;dbc:gold 0 to 0", 4);
    good("ab:gold 0 to 0;a:gold 0 to 0;abc:gold 0 to 0;b:gold 0 to 0;ac:gold 0 to 0;bb:gold 0 to 0", 6);
    String nine = "a:gold0to0;b:gold0to0;c:gold0to0;d:gold0to0;e:gold0to0;f:gold0to0;g:gold0to0;h:gold0to0;i:gold0to0;";
    good(nine + "j:gold0to0", 10);
    bad(nine + "i:gold0to0", 99);
    bad(nine + "a:gold0to0", 99);
    GoldLeaves x = new GoldLeaves();
    Texts.colours(x, "a:gold 0 to 0");
    CHECK.due("a name of the COLOURS before", Texts.colours(x, "a:gold 0 to 0"), 1);
  }

  private static void metals() {
    good("a:gold 0 to 0,silver 0 to 0,copper 0 to 0", 1);
    for (String word : new String[] {"bold", "gald", "goad", "golf", "gol", "golds", "old", "bilver", "silved",
      "silve", "silvers", "dopper", "coppes", "coppe", "coppers", "tin", "g", "to"}) {
      bad("a:" + word + " 0 to 0", 2);
    }
    for (String word : new String[] {"t", "o", "uo", "tp", "too", "ot", "gold"}) {
      bad("a:gold 0 " + word + " 0", 9);
    }
  }

  private static void numbersToThousand() {
    for (String number : new String[] {"0", "1", "999", "1000", "0000", "0999", "01000", "0".repeat(200)}) {
      good("a:gold " + number + " to 1000", 1);
      good("a:gold 0 to " + number, 1);
    }
    String[] above = {"1001", "1010", "1100", "2000", "9999", "10000", "32768", "65536", "65537", "2147483647",
      "2147483648", "4294967296", "4294967297", "9223372036854775807", "9223372036854775808",
      "18446744073709551616", "18446744073709551617", "1" + "0".repeat(200), "01001", "9".repeat(200)};
    for (String number : above) {
      bad("a:gold " + number + " to 1000", 7);
      bad("a:gold 0 to " + number, 12);
    }
  }

  private static void secondNotBelowFirst() {
    good("a:gold 0 to 0", 1);
    good("a:gold 1000 to 1000", 1);
    good("a:gold 500 to 500", 1);
    good("a:gold 500 to 501", 1);
    good("a:gold 9 to 10", 1);
    bad("a:gold 500 to 499", 14);
    bad("a:gold 1 to 0", 12);
    bad("a:gold 1000 to 999", 15);
    bad("a:gold 10 to 9", 13);
    bad("a:gold 0 to 0,silver 8 to 7", 26);
  }

  private static String beginning(int tokens) {
    StringBuilder text = new StringBuilder();
    for (int i = 0; i < tokens; i++) {
      text.append(GOOD[i]).append(' ');
    }
    return text.toString();
  }

  /** Whether a TOKEN of TOKENS may follow the first ones of GOOD. */
  private static boolean mayGoOn(int tokens, String token) {
    boolean word = token.matches("[a-z]+");
    switch (tokens) {
      case 0:
      case 12:
        return word;
      case 1:
      case 13:
        return token.equals(":");
      case 2:
      case 7:
      case 14:
        return token.equals("gold");
      case 3:
      case 5:
      case 8:
      case 10:
      case 15:
      case 17:
        return token.equals("7");
      case 4:
      case 9:
      case 16:
        return token.equals("to");
      default:
        return token.equals(",") || token.equals(";");
    }
  }

  private static void everyWrongToken() {
    for (int tokens = 0; tokens <= GOOD.length; tokens++) {
      String text = beginning(tokens);
      for (String token : TOKENS) {
        if (!mayGoOn(tokens, token)) {
          bad(text + token, text.length());
          bad(text + "  " + token + " ! 9 ; ;", text.length() + 2);
        }
      }
    }
  }

  private static void everyEarlyEnd() {
    for (int tokens = 1; tokens <= GOOD.length; tokens++) {
      String text = beginning(tokens);
      if (tokens == 6 || tokens == 11 || tokens == 18) {
        good(text, tokens == 18 ? 2 : 1);
        good(text.trim(), tokens == 18 ? 2 : 1);
      } else {
        bad(text.trim(), text.length() - 1);
        bad(text, text.length());
        bad(text + "    ", text.length() + 4);
      }
    }
  }

  private static String manyColours(int many) {
    StringBuilder text = new StringBuilder();
    for (int i = 0; i < many; i++) {
      text.append(i == 0 ? "" : ";").append((char) ('a' + i)).append(":gold1to2");
    }
    return text.toString();
  }

  private static void tenColours() {
    good(manyColours(9), 9);
    String ten = manyColours(10);
    good(ten, 10);
    bad(manyColours(11), ten.length() + 1);
    bad(ten + " ; k:gold1to2", ten.length() + 3);
    bad(ten + ";k", ten.length() + 1);
    bad(ten + ";", ten.length() + 1);
    bad(ten + ";7", ten.length() + 1);
    bad(ten + ":", ten.length());
    GoldLeaves x = Houses.bars(1);
    Texts.colours(x, ten.substring(0, ten.length() - 8) + "gold0to1000");
    CHECK.due("the tenth colour", x.colour(0), 9);
    CHECK.due("ten anew", Texts.colours(x, ten), 10);
    CHECK.due("eleven", Texts.colours(x, manyColours(11)), -6);
    CHECK.due("ten behind a fault", Texts.colours(x, ten), 10);
  }

  private static String manyTests(int many) {
    return "gold1to2,".repeat(many).substring(0, 9 * many - 1);
  }

  private static void thirtyTests() {
    good("a:" + manyTests(29), 1);
    String thirty = "a:" + manyTests(30);
    good(thirty, 1);
    bad("a:" + manyTests(31), thirty.length() + 1);
    bad(thirty + " , gold", thirty.length() + 3);
    bad(thirty + ",", thirty.length() + 1);
    bad(thirty + ",7", thirty.length() + 1);
    bad(thirty + ";b:gold1to2", thirty.length() + 3);
    bad(thirty + ";b : gold1to2", thirty.length() + 5);
    String twenty = "a:" + manyTests(20);
    good(twenty + ";b:" + manyTests(10), 2);
    bad(twenty + ";b:" + manyTests(11), twenty.length() + 3 + 90);
    String tenOfThree = manyColours(10).replace("gold1to2", manyTests(3));
    bad(tenOfThree + "!", tenOfThree.length());
    good(tenOfThree, 10);
    GoldLeaves x = Houses.bars(1);
    Texts.colours(x, "a:" + "gold1to1000,".repeat(21) + "silver1to1;b:gold1to1000");
    CHECK.due("a test far behind counts", x.colour(0), 1);
    CHECK.due("thirty anew", Texts.colours(x, thirty), 1);
    CHECK.due("thirty anew, again", Texts.colours(x, thirty), 1);
    CHECK.due("thirty-one", Texts.colours(x, "a:" + manyTests(31)), -6);
    CHECK.due("thirty behind a fault", Texts.colours(x, thirty), 1);
  }

  private static void coloursStay() {
    GoldLeaves x = Houses.bars(1);
    Texts.colours(x, "a:gold 0 to 999;b:gold 1000 to 1000");
    CHECK.due("colour(0)", x.colour(0), 1);
    CHECK.due("a bad text", Texts.colours(x, "x:gold 0 to 1000;y:gold 0 to 1000;z:"), -6);
    CHECK.due("count(6)", x.count(6), 2);
    CHECK.due("colour(0) then", x.colour(0), 1);
    CHECK.due("a text that is bad at once", Texts.colours(x, "!"), -6);
    CHECK.due("count(6) then", x.count(6), 2);
    CHECK.due("colour(0) in the end", x.colour(0), 1);
  }

  private static void latestFault() {
    GoldLeaves x = new GoldLeaves();
    CHECK.due("ahead of any colours()", x.fault(), -1);
    Texts.colours(x, "!");
    CHECK.due("the least place", x.fault(), 0);
    Texts.write(x, "a:");
    CHECK.due("a text that is not read", x.fault(), 0);
    x.colours();
    CHECK.due("a second bad text", x.fault(), 2);
    Texts.colours(x, "z".repeat(300));
    CHECK.due("the greatest place", x.fault(), 300);
    Texts.colours(x, "a:gold 0 to 0");
    CHECK.due("a good text", x.fault(), -1);
    Texts.colours(x, "!");
    x.colours();
    CHECK.due("an empty text", x.fault(), -1);
  }

  /** A PIECE of 1000 grains with a gold part of 500,000 and so many thousandths, -1 .. 1. */
  private static int colourAt(int beside, String text) {
    GoldLeaves x = new GoldLeaves();
    x.bar(999, 500, 100);
    x.bar(1, 500 + beside, 100);
    x.melt(0, 1);
    CHECK.due("part", x.part(0, 0), 500_000 + beside);
    CHECK.due("colours of '" + text + "'", Texts.colours(x, text), 1);
    return x.colour(0);
  }

  private static void lowEdge() {
    CHECK.edges("colour by 'gold 500 to 1000'", n -> colourAt(n, "a:gold 500 to 1000"), -1, -1, 0, 0, 1, 0);
    CHECK.edges("colour by 'gold 501 to 1000'", n -> colourAt(n, "a:gold 501 to 1000"), -1, -1, 0, -1, 1, -1);
    CHECK.due("no silver at all", colourOf(1, 1000, 0, "a:silver 0 to 0"), 0);
    CHECK.due("the least silver", colourOf(1, 999, 1, "a:silver 1 to 1"), 0);
    CHECK.due("one thousandth too little", colourOf(1, 1000, 0, "a:silver 1 to 1"), -1);
  }

  private static void highEdge() {
    CHECK.edges("colour by 'gold 0 to 500'", n -> colourAt(n, "a:gold 0 to 500"), -1, 0, 0, 0, 1, -1);
    CHECK.edges("colour by 'gold 0 to 499'", n -> colourAt(n, "a:gold 0 to 499"), -1, -1, 0, -1, 1, -1);
    CHECK.due("all copper", colourOf(1, 0, 0, "a:copper 1000 to 1000"), 0);
    CHECK.due("all but a thousandth", colourOf(1, 0, 0, "a:copper 0 to 999"), -1);
    GoldLeaves x = new GoldLeaves();
    for (int i = 0; i < 10; i++) {
      x.bar(1_000_000, 429, 571);
    }
    for (int i = 1; i < 10; i++) {
      x.melt(0, i);
    }
    // Products of up to 10,000,000,000 would wrap in an int.
    Texts.colours(x, "a:gold 430 to 1000;b:gold 0 to 428;c:silver 572 to 1000;d:silver 0 to 570;e:gold 429 to 429");
    CHECK.due("a heavy piece", x.colour(0), 4);
  }

  private static int colourOf(int grains, int gold, int silver, String text) {
    GoldLeaves x = new GoldLeaves();
    x.bar(grains, gold, silver);
    Texts.colours(x, text);
    return x.colour(0);
  }

  private static void firstColour() {
    CHECK.due("the first of two", colourOf(5, 500, 300, "a:gold 0 to 1000;b:gold 0 to 1000"), 0);
    CHECK.due("the second of two", colourOf(5, 500, 300, "a:gold 501 to 501;b:gold 500 to 500"), 1);
    CHECK.due("the last test fails",
        colourOf(5, 500, 300, "a:gold 500 to 500,silver 300 to 300,copper 201 to 201"), -1);
    CHECK.due("the first test fails",
        colourOf(5, 500, 300, "a:gold 499 to 499,silver 300 to 300,copper 200 to 200"), -1);
    CHECK.due("all three hold", colourOf(5, 500, 300, "a:gold 500 to 500,silver 300 to 300,copper 200 to 200"), 0);
    CHECK.due("tests that can't hold both", colourOf(5, 500, 300, "a:gold 0 to 499,gold 500 to 1000"), -1);
  }

  private static void colourNumbers() {
    CHECK.edges("colour(n)", EdgesOfColoursTest::colourOfOneOfThree,
        MIN, -1, -1, -1, 0, 0, 1, -1, 2, 0, 3, -1, 119, -1, 120, -1, MAX, -1);
    CHECK.due("without COLOURS", Houses.bars(1).colour(0), -1);
    CHECK.due("where none suits", colourOf(1, 1000, 0, "a:silver 1 to 1000;b:copper 1 to 1000"), -1);
  }

  private static int colourOfOneOfThree(int piece) {
    GoldLeaves x = Houses.bars(5, 5, 5);
    x.melt(0, 1);
    Texts.colours(x, "a:gold 0 to 1000");
    return x.colour(piece);
  }
}
