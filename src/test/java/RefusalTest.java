import java.util.function.Supplier;

// "Each act tells its findings in the order in which they are asked; one that answers a finding changes nothing but
// status()", and AHEAD: "nothing changes". Each call is made on one of two objects that were made alike; both must
// then tell the same of themselves.
public final class RefusalTest {
  private static final int BEYOND = -1000000001;
  private static final int FULL = -1000000002;
  private static final int KIND = -1000000003;
  private static final int NONE = -1000000004;
  private static final int STATE = -1000000005;
  private static final int MISSING = -1000000006;
  private static final int SIZE = -1000000007;

  private static int wrong = 0;

  private interface Act {
    long on(BackVerses x);
  }

  private static void due(String call, Object got, Object want) {
    if (!got.equals(want)) {
      wrong++;
      System.out.println(call + " answered " + got + ", due is " + want);
    }
  }

  public static void main(String[] args) {
    ofTheChapel();
    ofMembers();
    ofNights();
    ofWhatIsBest();
    ofTheText();
    ofSheets();
    ofImages();
    askingChangesNothing();
    faultsEmptyTheTapeAlone();
    System.out.println(wrong == 0 ? "all answers are as due" : wrong + " answers are not as due");
    if (wrong != 0) System.exit(1);
  }

  // ---- what an object tells of itself

  private static void tellChapel(BackVerses x, StringBuilder told) {
    for (int seat = 0; seat < 12; seat++) told.append(x.seat(seat)).append(' ');
    for (int what = 0; what < 6; what++) told.append(x.now(what)).append(' ');
    for (int what = 0; what < 4; what++) told.append(x.count(what)).append(' ');
    for (int m = 0; m < x.count(0); m++) {
      for (int what = 0; what < 7; what++) told.append(x.of(m, what)).append(' ');
    }
    told.append('\n');
  }

  private static void tellSheets(BackVerses x, StringBuilder told) {
    for (int s = 0; s < 4; s++) {
      for (int i = 0; i < 6; i++) told.append(x.write(s, i, 0x123456789L)).append(' ');
      // What it became tells of its bits.
      told.append(x.write(s, 0, 0)).append('\n');
    }
  }

  /** The object is no use any more then: its tape is read, its sheets are written on, its image is taken. */
  private static String told(BackVerses x) {
    StringBuilder told = new StringBuilder();
    tellChapel(x, told);
    tellSheets(x, told);
    told.append(x.chapel()).append('\n');
    tellChapel(x, told);
    told.append(x.undo()).append('\n');
    tellChapel(x, told);
    return told.toString();
  }

  private static void refused(String call, Supplier<BackVerses> made, long finding, Act act) {
    BackVerses x = made.get();
    BackVerses twin = made.get();
    int[] before = new int[8];
    for (int which = -1; which < 7; which++) before[which + 1] = x.status(which);
    due(call, act.on(x), finding);
    for (int which = -1; which < 7; which++) {
      boolean counts = which == -1 || which == BEYOND - finding;
      due(call + ": status(" + which + ")", x.status(which), before[which + 1] + (counts ? 1 : 0));
    }
    due(call + ": what it left", told(x), told(twin));
  }

  // ---- the objects

  private static void feed(BackVerses x, String text) {
    for (int i = 0; i < text.length(); i++) x.feed(text.charAt(i), 1);
  }

  /** Five of ten, with an image of two of them, sheets of all bits (3 is MISSING), and a good text on the tape. */
  private static BackVerses five() {
    BackVerses x = new BackVerses();
    x.member(0, 3, 1);
    x.member(4, 4, 2);
    x.nights(1);
    x.image();
    x.member(2, 6, 3);
    x.member(5, 7, 3);
    x.member(3, 9, 4);
    x.set(4, 4, 0x2a1);
    x.set(2, 5, 44);
    x.set(3, 3, 8);
    x.nights(2);
    x.sheet(0, 8, 3);
    x.sheet(1, 16, 4);
    x.sheet(2, 64, 5);
    for (int s = 0; s < 3; s++) for (int i = 0; i < 3; i++) x.write(s, i, 10 * s + i + 1);
    feed(x, "boy 0 7;knows 1 8;move 2 11");
    return x;
  }

  /** Ten of ten, in the SEATS 0 to 9; a full tape; no image. */
  private static BackVerses ten() {
    BackVerses x = new BackVerses();
    for (int m = 0; m < 10; m++) x.member(m % 6, m, m);
    x.set(9, 4, 0x155);
    x.nights(1);
    x.sheet(1, 16, 2);
    for (int i = 0; i < 30; i++) x.feed(i == 0 ? 0x6d6f7665 : i == 1 ? 0x20322031 : i == 2 ? 0x31202020 : 0x20202020, 4);
    return x;
  }

  /** A HERETIC, whom a STRANGER tells its own VERSE 9, and 7, in the first NIGHT. */
  private static BackVerses heretic() {
    BackVerses x = new BackVerses();
    x.member(4, 0, 9);
    x.image();
    x.member(3, 1, 0);
    x.set(1, 4, 0x280);
    x.sheet(1, 8, 2);
    feed(x, "boy 2 7");
    return x;
  }

  private static BackVerses nobody() {
    BackVerses x = new BackVerses();
    x.nights(3);
    feed(x, "boy 0 7");
    x.sheet(1, 8, 2);
    return x;
  }

  private static void five(String call, long finding, Act act) {
    refused("five: " + call, RefusalTest::five, finding, act);
  }

  private static void ten(String call, long finding, Act act) {
    refused("ten: " + call, RefusalTest::ten, finding, act);
  }

  private static void nobody(String call, long finding, Act act) {
    refused("nobody: " + call, RefusalTest::nobody, finding, act);
  }

  // ---- the refusals, each with what is asked earlier when two of them hold

  private static void ofTheChapel() {
    five("seat(12)", BEYOND, x -> x.seat(12));
    five("now(6)", BEYOND, x -> x.now(6));
    five("verse(-1)", BEYOND, x -> x.verse(-1));
    five("verse(5)", NONE, x -> x.verse(5));
    nobody("verse(-1), BEYOND before NONE", BEYOND, x -> x.verse(-1));
    nobody("verse(0)", NONE, x -> x.verse(0));
  }

  private static void ofMembers() {
    five("member(6, 0, 0)", BEYOND, x -> x.member(6, 0, 0));
    five("member(0, 12, 0)", BEYOND, x -> x.member(0, 12, 0));
    five("member(0, 0, 10)", BEYOND, x -> x.member(0, 0, 10));
    five("member(0, 3, 0)", STATE, x -> x.member(0, 3, 0));
    five("member(6, 3, 0), BEYOND before STATE", BEYOND, x -> x.member(6, 3, 0));
    five("member(0, 3, 10), BEYOND before STATE", BEYOND, x -> x.member(0, 3, 10));
    ten("member(0, 10, 0)", FULL, x -> x.member(0, 10, 0));
    ten("member(0, 0, 0), FULL before STATE", FULL, x -> x.member(0, 0, 0));
    ten("member(-1, 0, 0), BEYOND before FULL", BEYOND, x -> x.member(-1, 0, 0));
    ten("member(0, -1, 0), BEYOND before FULL", BEYOND, x -> x.member(0, -1, 0));
    ten("member(0, 0, -1), BEYOND before FULL", BEYOND, x -> x.member(0, 0, -1));
    five("of(5, 0)", BEYOND, x -> x.of(5, 0));
    five("of(0, 10)", BEYOND, x -> x.of(0, 10));
    int[][] settings = {{5, 2, 0}, {0, 1, 0}, {0, 6, 0}, {0, 2, 10}, {0, 2, -1}, {0, 3, 0}, {0, 3, 10}, {0, 4, -1},
      {0, 4, 1024}, {0, 5, -1}, {0, 5, 100}};
    for (int[] s : settings) five("set(" + s[0] + ", " + s[1] + ", " + s[2] + ")", BEYOND, x -> x.set(s[0], s[1], s[2]));
    five("move(5, 0)", BEYOND, x -> x.move(5, 0));
    five("move(0, 12)", BEYOND, x -> x.move(0, 12));
    five("move(0, 4)", STATE, x -> x.move(0, 4));
    five("move(5, 4), BEYOND before STATE", BEYOND, x -> x.move(5, 4));
    five("turn(5, 0)", BEYOND, x -> x.turn(5, 0));
    five("turn(0, 6)", BEYOND, x -> x.turn(0, 6));
    five("as(5, 0)", BEYOND, x -> x.as(5, 0));
    five("as(0, 6), BEYOND before KIND", BEYOND, x -> x.as(0, 6));
    five("as(0, 1)", KIND, x -> x.as(0, 1));
    five("as(1, 2)", KIND, x -> x.as(1, 2));
  }

  private static void ofNights() {
    five("nights(0)", BEYOND, x -> x.nights(0));
    five("nights(61)", BEYOND, x -> x.nights(61));
    five("on(5, 0, 0)", BEYOND, x -> x.on(5, 0, 0));
    five("on(0, 101, 0)", BEYOND, x -> x.on(0, 101, 0));
    five("on(0, 0, 2)", BEYOND, x -> x.on(0, 0, 2));
    five("learns(5, 0)", BEYOND, x -> x.learns(5, 0));
    five("learns(0, 10)", BEYOND, x -> x.learns(0, 10));
    five("learns(0, 1)", NONE, x -> x.learns(0, 1));
    five("spreads(10)", BEYOND, x -> x.spreads(10));
    five("spreads(1)", NONE, x -> x.spreads(1));
    five("heresy()", NONE, x -> x.heresy());
    nobody("heresy()", NONE, x -> x.heresy());
  }

  private static void ofWhatIsBest() {
    five("best(5, 1)", BEYOND, x -> x.best(5, 1));
    five("best(0, 41)", BEYOND, x -> x.best(0, 41));
    five("kind(5, 1)", BEYOND, x -> x.kind(5, 1));
    five("kind(0, 0)", BEYOND, x -> x.kind(0, 0));
    five("deep(0, 5, 1)", BEYOND, x -> x.deep(0, 5, 1));
    five("deep(0, 0, 1)", BEYOND, x -> x.deep(0, 0, 1));
    five("deep(0, 1, 41)", BEYOND, x -> x.deep(0, 1, 41));
    five("deep(0, 1, 40)", NONE, x -> x.deep(0, 1, 40));
    five("shift(0)", BEYOND, x -> x.shift(0));
    nobody("shift(41), BEYOND before NONE", BEYOND, x -> x.shift(41));
    nobody("shift(40)", NONE, x -> x.shift(40));
    five("bears(5, 1, 0)", BEYOND, x -> x.bears(5, 1, 0));
    five("bears(0, 41, 10), BEYOND before NONE", BEYOND, x -> x.bears(0, 41, 10));
    five("bears(0, 1, 11), BEYOND before NONE", BEYOND, x -> x.bears(0, 1, 11));
    five("bears(0, 40, 10)", NONE, x -> x.bears(0, 40, 10));
    five("wisest(101)", BEYOND, x -> x.wisest(101));
    nobody("wisest(101), BEYOND before NONE", BEYOND, x -> x.wisest(101));
    nobody("wisest(100)", NONE, x -> x.wisest(100));
  }

  private static void ofTheText() {
    five("feed(0, 0)", BEYOND, x -> x.feed(0, 0));
    five("feed(0, 5)", BEYOND, x -> x.feed(0, 5));
    for (int n = 1; n <= 4; n++) {
      int many = n;
      ten("feed(0, " + n + ")", FULL, x -> x.feed(0, many));
    }
    ten("feed(0, 0), BEYOND before FULL", BEYOND, x -> x.feed(0, 0));
    ten("feed(0, 5), BEYOND before FULL", BEYOND, x -> x.feed(0, 5));
  }

  private static void ofSheets() {
    five("sheet(4, 8, -1), BEYOND before SIZE", BEYOND, x -> x.sheet(4, 8, -1));
    five("sheet(0, 9, -1), BEYOND before SIZE", BEYOND, x -> x.sheet(0, 9, -1));
    for (int bits : new int[] {0, 8, 16, 64}) {
      five("sheet(0, " + bits + ", -1)", SIZE, x -> x.sheet(0, bits, -1));
      five("sheet(1, " + bits + ", 41)", BEYOND, x -> x.sheet(1, bits, 41));
    }
    five("write(4, 9, 7)", BEYOND, x -> x.write(4, 9, 7));
    five("write(3, 9, 7), MISSING before BEYOND", MISSING, x -> x.write(3, 9, 7));
    five("write(3, 0, 7)", MISSING, x -> x.write(3, 0, 7));
    five("write(0, 3, 7)", BEYOND, x -> x.write(0, 3, 7));
    five("write(0, -1, 7)", BEYOND, x -> x.write(0, -1, 7));
    five("copy(4, 0, 3, 0, -1), BEYOND before MISSING", BEYOND, x -> x.copy(4, 0, 3, 0, -1));
    five("copy(3, 0, 4, 0, -1), BEYOND before MISSING", BEYOND, x -> x.copy(3, 0, 4, 0, -1));
    five("copy(3, 0, 0, 0, -1), MISSING before BEYOND", MISSING, x -> x.copy(3, 0, 0, 0, -1));
    five("copy(0, 0, 3, 0, -1), MISSING before BEYOND", MISSING, x -> x.copy(0, 0, 3, 0, -1));
    five("copy(3, 0, 3, 0, 0)", MISSING, x -> x.copy(3, 0, 3, 0, 0));
    five("copy(0, 0, 1, 0, -1), KIND before BEYOND", KIND, x -> x.copy(0, 0, 1, 0, -1));
    five("copy(1, 0, 2, 0, 0)", KIND, x -> x.copy(1, 0, 2, 0, 0));
    five("copy(2, 0, 0, 0, 1)", KIND, x -> x.copy(2, 0, 0, 0, 1));
    five("copy(0, 1, 0, 0, 3)", BEYOND, x -> x.copy(0, 1, 0, 0, 3));
    five("copy(0, 0, 0, 1, 3)", BEYOND, x -> x.copy(0, 0, 0, 1, 3));
    five("copy(0, -1, 0, 0, 2)", BEYOND, x -> x.copy(0, -1, 0, 0, 2));
    five("copy(0, 0, 0, -1, 2)", BEYOND, x -> x.copy(0, 0, 0, -1, 2));
    five("copy(0, 0, 0, 0, -1)", BEYOND, x -> x.copy(0, 0, 0, 0, -1));
    five("lays(4)", BEYOND, x -> x.lays(4));
    five("lays(3)", MISSING, x -> x.lays(3));
    nobody("lays(0)", MISSING, x -> x.lays(0));
    five("book(4, 5)", BEYOND, x -> x.book(4, 5));
    five("book(3, 5), MISSING before BEYOND", MISSING, x -> x.book(3, 5));
    five("book(0, 5)", BEYOND, x -> x.book(0, 5));
    five("read(4, 5, 5)", BEYOND, x -> x.read(4, 5, 5));
    five("read(3, 5, 5), MISSING before BEYOND", MISSING, x -> x.read(3, 5, 5));
    five("read(3, 1, 1), MISSING before BEYOND", MISSING, x -> x.read(3, 1, 1));
    five("read(0, 5, 1)", BEYOND, x -> x.read(0, 5, 1));
    five("read(0, 1, 5)", BEYOND, x -> x.read(0, 1, 5));
    five("read(0, 1, 1)", BEYOND, x -> x.read(0, 1, 1));
  }

  private static void ofImages() {
    ten("undo()", NONE, x -> x.undo());
    nobody("undo()", NONE, x -> x.undo());
    five("count(4)", BEYOND, x -> x.count(4));
    five("count(-1)", BEYOND, x -> x.count(-1));
    five("status(7)", BEYOND, x -> x.status(7));
    five("status(-2)", BEYOND, x -> x.status(-2));
  }

  // ---- what asks alone

  private static void asked(String call, Act act) {
    asked(call, RefusalTest::five, act);
  }

  private static void asked(String call, Supplier<BackVerses> made, Act act) {
    BackVerses x = made.get();
    BackVerses twin = made.get();
    long answer = act.on(x);
    due(call + " is no finding", answer > BEYOND, true);
    due(call + ": status(-1)", x.status(-1), 0);
    due(call + ": what it left", told(x), told(twin));
  }

  private static void askingChangesNothing() {
    asked("seat", x -> x.seat(3));
    asked("now", x -> x.now(4));
    asked("verse", x -> x.verse(4));
    asked("of", x -> x.of(1, 8));
    asked("as", x -> x.as(1, 1));
    asked("on", x -> x.on(0, 100, 0));
    asked("on", x -> x.on(0, 100, 1));
    asked("learns", x -> x.learns(0, 2));
    asked("spreads", RefusalTest::heretic, x -> x.spreads(7));
    asked("heresy", RefusalTest::heretic, x -> x.heresy());
    asked("best", x -> x.best(0, 40));
    asked("kind", x -> x.kind(0, 40));
    asked("deep", x -> x.deep(1, 0, 40));
    asked("shift", x -> x.shift(40));
    asked("bears", x -> x.bears(0, 40, 1));
    asked("wisest", x -> x.wisest(100));
    asked("read", x -> x.read(0, 0, 1));
    asked("count", x -> x.count(2));
    asked("status", x -> x.status(-1));
    asked("a move to one's own seat", x -> x.move(0, 3));
    asked("a turn to one's own kind", x -> x.turn(1, 4));
    asked("a copy of none", x -> x.copy(0, 3, 0, 0, 0));
    asked("a copy onto itself", x -> x.copy(2, 1, 2, 1, 3));
  }

  // ---- a FAULT

  private static void faultsEmptyTheTapeAlone() {
    String[] texts = {"", "boy 0 7;knows 1 8;move 2 11;", "elder 0 0;stranger 1 0 deep 9;move 0 2;boy 0 0", "knows 0 1;!"};
    for (String text : texts) {
      BackVerses x = five();
      BackVerses twin = five();
      x.wipe();
      twin.wipe();
      feed(x, text);
      due("FAULT of " + text + " is no finding", x.chapel() < 0 && x.status(-1) == 0, true);
      due("FAULT of " + text + ": the tape", x.count(1), 0);
      due("FAULT of " + text + ": what it left", told(x), told(twin));
    }
  }
}
