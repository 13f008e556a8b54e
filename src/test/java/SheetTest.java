// Promises 25 to 35: sheets, images, counts and the status.
public final class SheetTest {
  private static final int BEYOND = -1000000001;
  private static final int KIND = -1000000003;
  private static final int NONE = -1000000004;
  private static final int MISSING = -1000000006;
  private static final int SIZE = -1000000007;
  private static final int[] NO_SHEET = {Integer.MIN_VALUE, -1, 4, Integer.MAX_VALUE};

  private static int wrong = 0;

  private static void due(String call, long got, long want) {
    if (got != want) {
      wrong++;
      System.out.println(call + " answered " + got + ", due is " + want);
    }
  }

  public static void main(String[] args) {
    sheets();
    numbers();
    copies();
    copyFindings();
    lays();
    books();
    reader();
    images();
    counts();
    status();
    System.out.println(wrong == 0 ? "all answers are as due" : wrong + " answers are not as due");
    if (wrong != 0) System.exit(1);
  }

  private static void sheets() {
    BackVerses x = new BackVerses();
    for (int s : NO_SHEET) due("sheet(" + s + ", 8, -1)", x.sheet(s, 8, -1), BEYOND);
    for (int bits : new int[] {Integer.MIN_VALUE, -8, 1, 7, 32, 63, 65, 128}) {
      due("sheet(0, " + bits + ", -1)", x.sheet(0, bits, -1), BEYOND);
    }
    for (int bits : new int[] {0, 8, 16, 64}) {
      due("sheet(0, " + bits + ", -1)", x.sheet(0, bits, -1), SIZE);
      due("sheet(0, " + bits + ", min)", x.sheet(0, bits, Integer.MIN_VALUE), SIZE);
      due("sheet(0, " + bits + ", 41)", x.sheet(0, bits, 41), BEYOND);
      due("sheet(0, " + bits + ", max)", x.sheet(0, bits, Integer.MAX_VALUE), BEYOND);
      due("sheet(0, " + bits + ", 40)", x.sheet(0, bits, 40), bits == 0 ? 0 : 40);
      due("sheet(1, " + bits + ", 0)", x.sheet(1, bits, 0), 0);
      due("write(1, 0, 0)", x.write(1, 0, 0), bits == 0 ? MISSING : BEYOND);
    }
    x.sheet(0, 16, 3);
    due("write(0, 1, 7)", x.write(0, 1, 7), 0);
    due("a finding changes nothing", x.sheet(0, 0, 41), BEYOND);
    due("write(0, 1, 8)", x.write(0, 1, 8), 7);
    due("anew", x.sheet(0, 16, 3), 3);
    due("all 0", x.write(0, 1, 9), 0);
    due("gone", x.sheet(0, 0, 3), 0);
    due("write(0, 1, 9)", x.write(0, 1, 9), MISSING);
    due("back", x.sheet(0, 64, 3), 3);
    due("all 0", x.write(0, 1, 9), 0);
  }

  private static void numbers() {
    long[] values = {0, 1, -1, 127, 128, 255, 256, -128, -129, 32767, 32768, 65535, 65536, -32768, -32769,
      1L << 32, (1L << 32) + 5, Long.MAX_VALUE, Long.MIN_VALUE, BEYOND, SIZE};
    BackVerses x = new BackVerses();
    x.sheet(0, 8, 1);
    x.sheet(1, 16, 1);
    x.sheet(2, 64, 1);
    long was = 0;
    for (long v : values) {
      due("8 bits", x.write(0, 0, v), (byte) was);
      due("16 bits", x.write(1, 0, v), (short) was);
      due("64 bits", x.write(2, 0, v), was);
      was = v;
    }
    due("numbers like findings aren't counted", x.status(-1), 0);
    for (int s : NO_SHEET) due("write(" + s + ", 0, 0)", x.write(s, 0, 0), BEYOND);
    due("write(3, -1, 0)", x.write(3, -1, 0), MISSING);
    for (int i : new int[] {Integer.MIN_VALUE, -1, 1, 40, Integer.MAX_VALUE}) {
      due("write(0, " + i + ", 0)", x.write(0, i, 0), BEYOND);
    }
    due("status(0)", x.status(0), 9);
    due("status(5)", x.status(5), 1);
  }

  private static BackVerses rowsOfFive(int bits) {
    BackVerses x = new BackVerses();
    x.sheet(0, bits, 5);
    x.sheet(1, bits, 3);
    for (int i = 0; i < 5; i++) x.write(0, i, i + 1);
    return x;
  }

  private static void row(BackVerses x, int s, String name, int... want) {
    for (int i = 0; i < want.length; i++) due(name + " number " + i, x.write(s, i, 0), want[i]);
  }

  private static void copies() {
    for (int bits : new int[] {8, 16, 64}) {
      BackVerses x = rowsOfFive(bits);
      due("up", x.copy(0, 0, 0, 1, 4), 4);
      row(x, 0, "up", 1, 1, 2, 3, 4);
      x = rowsOfFive(bits);
      due("down", x.copy(0, 2, 0, 0, 3), 3);
      row(x, 0, "down", 3, 4, 5, 4, 5);
      x = rowsOfFive(bits);
      due("to another", x.copy(0, 3, 1, 1, 2), 2);
      row(x, 1, "to another", 0, 4, 5);
      row(x, 0, "from one", 1, 2, 3, 4, 5);
      x = rowsOfFive(bits);
      due("none, at the ends", x.copy(0, 5, 1, 3, 0), 0);
      due("all", x.copy(1, 0, 0, 2, 3), 3);
      row(x, 0, "all", 1, 2, 0, 0, 0);
    }
  }

  private static void copyFindings() {
    BackVerses x = rowsOfFive(8);
    x.sheet(2, 16, 5);
    for (int s : NO_SHEET) {
      due("copy from " + s, x.copy(s, 0, 3, 0, 1), BEYOND);
      due("copy to " + s, x.copy(3, 0, s, 0, 1), BEYOND);
    }
    due("from a missing one", x.copy(3, 0, 2, 0, -1), MISSING);
    due("to a missing one", x.copy(0, 0, 3, 0, -1), MISSING);
    due("other bits", x.copy(0, 0, 2, 0, -1), KIND);
    due("n below 0", x.copy(0, 0, 1, 0, -1), BEYOND);
    due("from below 0", x.copy(0, -1, 1, 0, 1), BEYOND);
    due("to below 0", x.copy(0, 0, 1, -1, 1), BEYOND);
    due("too many of the source", x.copy(0, 4, 1, 0, 2), BEYOND);
    due("too many for the target", x.copy(0, 0, 1, 0, 4), BEYOND);
    due("too many for the target", x.copy(0, 0, 1, 2, 2), BEYOND);
    due("none from beyond", x.copy(0, 6, 1, 0, 0), BEYOND);
    due("none to beyond", x.copy(0, 0, 1, 4, 0), BEYOND);
    due("sums that wrap", x.copy(0, Integer.MAX_VALUE, 1, 0, Integer.MAX_VALUE), BEYOND);
    due("sums that wrap", x.copy(0, 1, 1, 1, Integer.MAX_VALUE), BEYOND);
    due("all least", x.copy(0, Integer.MIN_VALUE, 1, Integer.MIN_VALUE, Integer.MIN_VALUE), BEYOND);
    row(x, 1, "untouched", 0, 0, 0);
  }

  private static void lays() {
    BackVerses x = new BackVerses();
    for (int s : NO_SHEET) due("lays(" + s + ")", x.lays(s), BEYOND);
    due("lays(0)", x.lays(0), MISSING);
    for (int m = 0; m < 5; m++) {
      x.member(0, m, m);
      x.set(m, 4, 3);
    }
    x.sheet(0, 64, 4);
    x.write(0, 0, 1023);
    x.write(0, 1, 1024);
    x.write(0, 2, -1);
    x.write(0, 3, 0);
    due("lays(0)", x.lays(0), 2);
    int[] want = {1023, 3, 3, 0, 3};
    for (int m = 0; m < 5; m++) due("KNOWS of " + m, x.of(m, 4), want[m]);
    x.sheet(1, 16, 40);
    due("more numbers than members", x.lays(1), 5);
    due("now(3)", x.now(3), 0);
    x.write(0, 0, (1L << 32) + 1);
    due("a great number", x.lays(0), 1);
    x.sheet(2, 8, 0);
    due("no numbers", x.lays(2), 0);
  }

  /** ELDER 0 in front of whom a STRANGER 1 knows all; MEMBER 2 far off. */
  private static BackVerses taught() {
    BackVerses x = new BackVerses();
    x.member(1, 0, 4);
    x.member(3, 1, 2);
    x.member(0, 11, 3);
    x.set(1, 4, 1023);
    return x;
  }

  private static void books() {
    BackVerses x = taught();
    for (int s : NO_SHEET) due("book(" + s + ", 9)", x.book(s, 9), BEYOND);
    due("book(0, 9)", x.book(0, 9), MISSING);
    x.sheet(0, 64, 3);
    for (int m : new int[] {-1, 3, Integer.MIN_VALUE, Integer.MAX_VALUE}) due("book(0, " + m + ")", x.book(0, m), BEYOND);
    due("book(0, 0)", x.book(0, 0), 3);
    row(x, 0, "book", 0, 1023 - 16, 1023 - 16);
    due("nothing changes", x.of(0, 4), 0);
    due("nothing changes", x.now(0), 0);
    x.sheet(1, 8, 2);
    due("of 8 bits", x.book(1, 0), 2);
    row(x, 1, "lowest bits", 0, (byte) (1023 - 16));
    x.sheet(2, 8, 0);
    due("no numbers", x.book(2, 0), 0);
  }

  private static void reader() {
    BackVerses x = taught();
    for (int s : NO_SHEET) due("read(" + s + ", 9, 9)", x.read(s, 9, 9), BEYOND);
    due("read(0, 9, 9)", x.read(0, 9, 9), MISSING);
    x.sheet(0, 16, 3);
    for (int m : new int[] {-1, 3, Integer.MIN_VALUE, Integer.MAX_VALUE}) {
      due("read(0, " + m + ", 0)", x.read(0, m, 0), BEYOND);
      due("read(0, 0, " + m + ")", x.read(0, 0, m), BEYOND);
    }
    due("one and the same", x.read(0, 1, 1), BEYOND);
    x.book(0, 0);
    // But for a HERETIC, each of the KINDS gets all but VERSE 4 from a STRANGER; from a MEMBER it gets VERSE 2 at most.
    due("read(0, 0, 1)", x.read(0, 0, 1), 5);
    // Whatever the far MEMBER is; the STRANGER in front tells as before.
    due("read(0, 0, 2)", x.read(0, 0, 2), 5 * 6);
    due("nothing changes", x.of(0, 0), 1);
    due("nothing changes", x.of(1, 0), 3);
    x.write(0, 0, 1);
    due("another first number", x.read(0, 0, 1), 0);
    x.sheet(1, 8, 0);
    due("no numbers", x.read(1, 0, 1), 36);
    x.sheet(1, 8, 1);
    due("one number", x.read(1, 0, 1), 36);
    x.sheet(2, 8, 3);
    x.book(2, 0);
    due("cut numbers aren't what one KNOWS", x.read(2, 0, 1), 0);
  }

  private static void images() {
    BackVerses x = taught();
    due("undo()", x.undo(), NONE);
    due("image()", x.image(), 1);
    x.sheet(0, 8, 1);
    x.feed(65, 1);
    x.nights(5);
    x.member(2, 5, 5);
    x.set(3, 4, 1023);
    x.set(3, 5, 50);
    x.move(0, 9);
    x.turn(1, 0);
    x.set(2, 2, 9);
    x.set(2, 3, 9);
    x.set(2, 5, 44);
    due("undo()", x.undo(), 3);
    due("NIGHT", x.now(0), 0);
    due("seat(0)", x.seat(0), 0);
    due("seat(9)", x.seat(9), -1);
    due("seat(5)", x.seat(5), -1);
    due("KIND", x.of(1, 0), 3);
    due("VERSE", x.of(2, 2), 3);
    due("DEEP", x.of(2, 3), 5);
    due("TIRED", x.of(2, 5), 0);
    due("KNOWS", x.of(0, 4), 0);
    due("no such one", x.of(3, 4), BEYOND);
    due("THE TAPE stays", x.count(1), 1);
    due("sheets stay", x.write(0, 0, 0), 0);
    due("status stays", x.status(3), 1);
    x.member(2, 5, 5);
    due("no traces: KNOWS", x.of(3, 4), 0);
    due("no traces: TIRED", x.of(3, 5), 0);
    due("it stays", x.undo(), 3);
    x.nights(2);
    due("the latest", x.image(), 1);
    x.nights(2);
    due("undo()", x.undo(), 3);
    due("NIGHT", x.now(0), 2);
    due("tear()", x.tear(), 1);
    due("tear()", x.tear(), 0);
    due("undo()", x.undo(), NONE);
    due("NIGHT", x.now(0), 2);
  }

  private static void counts() {
    BackVerses x = taught();
    x.set(1, 3, 9);
    x.feed(0, 3);
    due("count(0)", x.count(0), 3);
    due("count(1)", x.count(1), 3);
    due("count(2)", x.count(2), 19);
    due("count(3)", x.count(3), 9);
    for (int what : new int[] {Integer.MIN_VALUE, -1, 4, Integer.MAX_VALUE}) due("count(" + what + ")", x.count(what), BEYOND);
  }

  private static void status() {
    BackVerses x = new BackVerses();
    x.seat(99); // BEYOND
    x.undo(); // NONE
    x.sheet(0, 8, -1); // SIZE
    x.lays(0); // MISSING
    x.feed(0x626f7920, 4);
    x.chapel(); // a FAULT is no finding
    x.image();
    x.member(0, 0, 0);
    x.member(0, 0, 0); // STATE
    x.as(0, 1); // KIND
    x.undo();
    for (int i = 0; i < 30; i++) x.feed(0, 4);
    x.feed(0, 1); // FULL
    for (int which = 0; which < 7; which++) due("status(" + which + ")", x.status(which), 1);
    due("status(-1)", x.status(-1), 7);
    due("status(7)", x.status(7), BEYOND);
    due("status(-2)", x.status(-2), BEYOND);
    due("counted from then on", x.status(0), 3);
    due("status(-1)", x.status(-1), 9);
  }
}
