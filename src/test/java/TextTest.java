// Promises 22 to 24: THE TAPE and THE TEXT of a CHAPEL.
public final class TextTest {
  private static final int BEYOND = -1000000001;
  private static final int FULL = -1000000002;

  private static int wrong = 0;

  private static void due(String call, long got, long want) {
    if (got != want) {
      wrong++;
      System.out.println(call + " answered " + got + ", due is " + want);
    }
  }

  public static void main(String[] args) {
    tape();
    goodTexts();
    whatItemsDo();
    faults();
    everyByte();
    earlierBytes();
    eleventh();
    faultChangesNothing();
    System.out.println(wrong == 0 ? "all answers are as due" : wrong + " answers are not as due");
    if (wrong != 0) System.exit(1);
  }

  private static int tell(BackVerses x, String text) {
    for (int i = 0; i < text.length(); i++) due("feed " + text + " " + i, x.feed(text.charAt(i), 1), i + 1);
    return x.chapel();
  }

  /** A chapel with member 0 in SEAT 2 and member 1 in SEAT 5. */
  private static BackVerses two() {
    BackVerses x = new BackVerses();
    x.member(0, 2, 1);
    x.member(1, 5, 2);
    return x;
  }

  private static void tape() {
    BackVerses x = new BackVerses();
    for (int n : new int[] {Integer.MIN_VALUE, -1, 0, 5, Integer.MAX_VALUE}) {
      due("feed(0, " + n + ")", x.feed(0, n), BEYOND);
    }
    due("feed boy_", x.feed(0x626f7920, 4), 4);
    due("feed 3_4", x.feed(0x7f332034, 3), 7);
    due("count(1)", x.count(1), 7);
    due("feed ;b", x.feed(0xffff3b62, 2), 9);
    due("feed oy4", x.feed(0x6f7934, 3), 12);
    due("feed _", x.feed(0x20, 1), 13);
    due("feed 6", x.feed(0x36, 1), 14);
    due("chapel()", x.chapel(), 2);
    due("count(1)", x.count(1), 0);
    due("seat(3)", x.seat(3), 0);
    due("seat(4)", x.seat(4), 1);
    for (int i = 0; i < 29; i++) x.feed(0x20202020, 4);
    due("117", x.feed(0x20, 1), 117);
    due("beyond 120", x.feed(0, 4), FULL);
    due("still 117", x.count(1), 117);
    due("120", x.feed(0x202020, 3), 120);
    due("121", x.feed(0, 1), FULL);
    due("n is asked first", x.feed(0, 5), BEYOND);
    due("wipe()", x.wipe(), 120);
    due("wipe()", x.wipe(), 0);
    due("count(1)", x.count(1), 0);
    due("status(0)", x.status(0), 6);
    due("status(1)", x.status(1), 2);
  }

  private static void goodTexts() {
    String[] texts = {
      "boy 0 0", "boy0 0", " boy 0 0 ", "boy 0 0deep 1", "boy 0 0 deep9", "boy 00 000000000000000000000009",
      "knows 0 0", "knows 1 9", "move 0 0", "move 1 11", "choirboy 11 9 deep 9"};
    for (String text : texts) due(text, tell(two(), text), 1);
    due("member", tell(new BackVerses(), "member 1 1;elder 2 2;boy 3 3;stranger 4 4;heretic 5 5;choirboy 6 6"), 6);
    due("a seat left", tell(two(), "move 0 0;boy 2 2"), 2);
    due("one there by then", tell(new BackVerses(), "boy 2 2;knows 0 2;knows 0 3;move 0 3;move 0 2"), 5);
    StringBuilder all = new StringBuilder("knows 1 0");
    while (all.length() < 110) all.append(";knows 1 0");
    due("a full tape", tell(two(), all + "0"), 12);
  }

  private static void whatItemsDo() {
    BackVerses x = two();
    x.nights(3);
    due("text", tell(x, "heretic 7 8 deep 2;knows 2 8;knows 2 0;move 0 8;stranger 2 9;knows 0 3"), 6);
    due("count(0)", x.count(0), 4);
    due("of(2, 0)", x.of(2, 0), 4);
    due("of(2, 1)", x.of(2, 1), 7);
    due("of(2, 2)", x.of(2, 2), 8);
    due("of(2, 3)", x.of(2, 3), 2);
    due("of(2, 4)", x.of(2, 4), 257);
    due("of(2, 5)", x.of(2, 5), 0);
    due("of(3, 3)", x.of(3, 3), 5);
    due("of(0, 4)", x.of(0, 4), 8);
    due("of(0, 1)", x.of(0, 1), 8);
    due("seat(8)", x.seat(8), 0);
    due("seat(2)", x.seat(2), 3);
    due("now(0)", x.now(0), 3);
    due("status(-1)", x.status(-1), 0);
  }

  private static void faults() {
    // Each text with the place of its FAULT.
    Object[][] cases = {
      {"", 0}, {"   ", 3}, {";", 0}, {"boy", 3}, {"boy ", 4}, {"boy 0", 5}, {"boy 0 ", 6}, {"boy 0 0;", 8},
      {"boy 0 0 ; ", 10}, {"boy 0 0 deep", 12}, {"knows", 5}, {"knows 0", 7}, {"move", 4}, {"move 0", 6},
      {"0", 0}, {"deep 3", 0}, {"girl 0 0", 0}, {"boys 0 0", 0}, {"bo 0 0", 0}, {"Boy 0 0", 0}, {"toy 0 0", 0}, {"boyz 0 0", 0}, {"boya 0 0", 0}, {"boY 0 0", 0},
      {"boy boy", 4}, {"boy ;", 4}, {"boy 12 0", 4}, {"boy 2 0", 4}, {"boy 5 0", 4}, {"boy 1000 0", 4},
      {"boy 4294967296 0", 4}, {"boy 0 10", 6}, {"boy 0 4294967296", 6}, {"boy 0 boy", 6}, {"boy 0;0", 5},
      {"boy 0 0 0", 8}, {"boy 0 0 boy", 8}, {"boy 0 0deeep 3", 7}, {"boy 0 0 deep 0", 13}, {"boy 0 0 deep 10", 13},
      {"boy 0 0 deep deep", 13}, {"boy 0 0 deep 3 deep 3", 15}, {"boy 0 0 deep 3 4", 15},
      {"knows 2 0", 6}, {"knows boy", 6}, {"knows 0 10", 8}, {"knows 0 ;", 8}, {"knows 0 0 0", 10},
      {"knows 0 0 deep 3", 10}, {"move 2 0", 5}, {"move 0 12", 7}, {"move 0 2", 7}, {"move 0 5", 7},
      {"move 0 0 deep 3", 9}, {"move 0 0 1", 9}, {"boy 0 0;;", 8}, {"boy 0 0;boy 0 1", 12},
      {"move 0 0;boy 0 1", 13}, {"knows 2 1;boy 0 0", 6}, {"boy 0 0,boy 1 1", 7}, {"boy\t0 0", 3}, {"boy 0 0\n", 7},
      {"boy -1 0", 4}, {"boy 99 !", 4}, {"!", 0}, {"  !", 2}, {"boy 0 0;knows 3 0", 14}, {"boy 0 0;boy 1 1;?", 16}};
    for (Object[] each : cases) due("FAULT of " + each[0], tell(two(), (String) each[0]), -1 - (Integer) each[1]);
  }

  private static void everyByte() {
    for (int one = 0; one < 256; one++) {
      BackVerses x = two();
      x.feed(0x626f7920, 4);
      x.feed(0x302030, 3);
      x.feed(one - 256, 1);
      boolean digit = one >= '0' && one <= '9';
      long want = one == ' ' || digit ? 1 : one == ';' ? -9 : -8;
      due("boy 0 0 and byte " + one, x.chapel(), want);
      due("tape after byte " + one, x.count(1), 0);
      x = two();
      x.feed(0x626f79, 3);
      x.feed(one, 1);
      x.feed(0x302030, 3);
      boolean letter = one >= 'a' && one <= 'z';
      want = one == ' ' || one == '0' || one == '1' ? 1 : letter ? -1 : -4;
      due("boy and byte " + one + " and 0 0", x.chapel(), want);
    }
  }

  private static void earlierBytes() {
    BackVerses x = two();
    due("knows 9", tell(x, "knows 0 09"), 1);
    due("knows 0, not 9 again", tell(x, "knows 0 0"), 1);
    due("of(0, 4)", x.of(0, 4), 513);
    due("a longer word", tell(x, "boy 0 0 deepx"), -9);
    due("no longer word", tell(x, "boy 0 0 deep"), -13);
  }

  private static void eleventh() {
    BackVerses x = new BackVerses();
    for (int m = 0; m < 9; m++) x.member(0, m, m);
    due("an 11th", tell(x, "boy 9 9; elder 10 0"), -10);
    due("none came", x.count(0), 9);
    due("a 10th", tell(x, "boy 9 9"), 1);
    due("an 11th alone", tell(x, "boy"), -1);
    due("others may come", tell(x, "move 9 11;knows 9 0"), 2);
    due("seat(11)", x.seat(11), 9);
  }

  private static void faultChangesNothing() {
    BackVerses x = two();
    due("FAULT at last", tell(x, "boy 0 0;knows 0 5;move 1 11;deep"), -1 - 28);
    due("count(0)", x.count(0), 2);
    due("count(1)", x.count(1), 0);
    due("of(0, 4)", x.of(0, 4), 0);
    due("of(1, 1)", x.of(1, 1), 5);
    due("seat(0)", x.seat(0), -1);
    due("seat(11)", x.seat(11), -1);
    due("status(-1)", x.status(-1), 0);
    due("member", x.member(0, 0, 0), 2);
    due("of(2, 4)", x.of(2, 4), 0);
  }
}
