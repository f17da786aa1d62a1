/** Brings texts onto the TAPE of a house. */
final class Texts {
  private Texts() {
  }

  /** Twenty bytes of the text from a place on, blanks behind its end, as five numbers. */
  static int[] five(String text, int at) {
    int[] five = new int[5];
    for (int i = 0; i < 20; i++) {
      int value = at + i < text.length() ? text.charAt(at + i) & 255 : 32;
      five[i / 4] = five[i / 4] << 8 | value;
    }
    return five;
  }

  /** Brings a text of at most 300 bytes onto an empty TAPE. */
  static void write(GoldLeaves x, String text) {
    for (int at = 0; at < text.length(); at += 20) {
      int[] n = five(text, at);
      x.feed(n[0], n[1], n[2], n[3], n[4]);
    }
    x.end(text.length());
  }

  static int colours(GoldLeaves x, String text) {
    write(x, text);
    return x.colours();
  }
}
