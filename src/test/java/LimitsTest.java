import java.util.function.Supplier;

// The least and the greatest that each argument of each call may be, and the first one beyond on either side.
public final class LimitsTest {
  private static final int BEYOND = -1000000001;
  private static final int NONE = -1000000004;
  private static final int SIZE = -1000000007;

  private static int wrong = 0;

  private interface With {
    long call(BackVerses x, int v);
  }

  private static void due(String call, long got, long want) {
    if (got != want) {
      wrong++;
      System.out.println(call + " answered " + got + ", due is " + want);
    }
  }

  public static void main(String[] args) {
    chapelCalls();
    memberCalls();
    settings();
    nightCalls();
    bestCalls();
    textCalls();
    sheetCalls();
    countCalls();
    nobodyIsThere();
    allAreThere();
    System.out.println(wrong == 0 ? "all answers are as due" : wrong + " answers are not as due");
    if (wrong != 0) System.exit(1);
  }

  /** Each value on an object of its own, so that no call stands in for another. */
  private static void limits(String call, Supplier<BackVerses> made, int least, int most, With with) {
    for (int good : new int[] {least, most}) {
      BackVerses x = made.get();
      long answer = with.call(x, good);
      due(call + " with " + good + " is no BEYOND", answer == BEYOND ? 1 : 0, 0);
      due(call + " with " + good + ": status(0)", x.status(0), 0);
    }
    for (int bad : new int[] {least - 1, most + 1, Integer.MIN_VALUE, Integer.MAX_VALUE}) {
      BackVerses x = made.get();
      due(call + " with " + bad, with.call(x, bad), BEYOND);
      due(call + " with " + bad + ": status(0)", x.status(0), 1);
      due(call + " with " + bad + ": status(-1)", x.status(-1), 1);
    }
  }

  /** MEMBERS 0 to 2 in the SEATS 4, 5 and 7, who know something; sheets 0 and 3 of 16 bits, with 5 and 3 numbers. */
  private static BackVerses three() {
    BackVerses x = new BackVerses();
    x.member(0, 4, 1);
    x.member(1, 5, 2);
    x.member(5, 7, 3);
    x.set(1, 4, 0x60);
    for (int s = 0; s < 4; s++) x.sheet(s, 16, s == 0 ? 5 : 3);
    return x;
  }

  private static void chapelCalls() {
    limits("seat(v)", LimitsTest::three, 0, 11, (x, v) -> x.seat(v));
    limits("now(v)", LimitsTest::three, 0, 5, (x, v) -> x.now(v));
    // Of verse() only what is below 0 is BEYOND; what is above all is NONE.
    BackVerses x = three();
    due("verse(-1)", x.verse(-1), BEYOND);
    due("verse(least)", x.verse(Integer.MIN_VALUE), BEYOND);
    due("verse(0)", x.verse(0), 1);
    due("verse(2)", x.verse(2), 3);
    due("verse(3)", x.verse(3), NONE);
    due("verse(greatest)", x.verse(Integer.MAX_VALUE), NONE);
    due("status(0)", x.status(0), 2);
    due("status(3)", x.status(3), 2);
  }

  private static void memberCalls() {
    limits("member(v, 0, 0)", LimitsTest::three, 0, 5, (x, v) -> x.member(v, 0, 0));
    limits("member(0, v, 0)", LimitsTest::three, 0, 11, (x, v) -> x.member(0, v, 0));
    limits("member(0, 0, v)", LimitsTest::three, 0, 9, (x, v) -> x.member(0, 0, v));
    limits("of(v, 0)", LimitsTest::three, 0, 2, (x, v) -> x.of(v, 0));
    limits("of(0, v)", LimitsTest::three, 0, 9, (x, v) -> x.of(0, v));
    limits("move(v, 0)", LimitsTest::three, 0, 2, (x, v) -> x.move(v, 0));
    limits("move(0, v)", LimitsTest::three, 0, 11, (x, v) -> x.move(0, v));
    limits("turn(v, 0)", LimitsTest::three, 0, 2, (x, v) -> x.turn(v, 0));
    limits("turn(0, v)", LimitsTest::three, 0, 5, (x, v) -> x.turn(0, v));
    limits("as(v, 0)", LimitsTest::three, 0, 2, (x, v) -> x.as(v, 0));
    limits("as(0, v)", LimitsTest::three, 0, 5, (x, v) -> x.as(0, v));
  }

  private static void settings() {
    limits("set(v, 2, 0)", LimitsTest::three, 0, 2, (x, v) -> x.set(v, 2, 0));
    limits("set(0, v, 1)", LimitsTest::three, 2, 5, (x, v) -> x.set(0, v, 1));
    limits("VERSE: set(0, 2, v)", LimitsTest::three, 0, 9, (x, v) -> x.set(0, 2, v));
    limits("DEEP: set(0, 3, v)", LimitsTest::three, 1, 9, (x, v) -> x.set(0, 3, v));
    limits("KNOWS: set(0, 4, v)", LimitsTest::three, 0, 1023, (x, v) -> x.set(0, 4, v));
    limits("TIRED: set(0, 5, v)", LimitsTest::three, 0, 99, (x, v) -> x.set(0, 5, v));
  }

  private static void nightCalls() {
    limits("nights(v)", LimitsTest::three, 1, 60, (x, v) -> x.nights(v));
    limits("on(v, 0, 0)", LimitsTest::three, 0, 2, (x, v) -> x.on(v, 0, 0));
    limits("on(0, v, 0)", LimitsTest::three, 0, 100, (x, v) -> x.on(0, v, 0));
    limits("on(0, 0, v)", LimitsTest::three, 0, 1, (x, v) -> x.on(0, 0, v));
    limits("learns(v, 0)", LimitsTest::three, 0, 2, (x, v) -> x.learns(v, 0));
    limits("learns(0, v)", LimitsTest::three, 0, 9, (x, v) -> x.learns(0, v));
    limits("spreads(v)", LimitsTest::three, 0, 9, (x, v) -> x.spreads(v));
  }

  private static void bestCalls() {
    limits("best(v, 1)", LimitsTest::three, 0, 2, (x, v) -> x.best(v, 1));
    limits("best(0, v)", LimitsTest::three, 1, 40, (x, v) -> x.best(0, v));
    limits("kind(v, 1)", LimitsTest::three, 0, 2, (x, v) -> x.kind(v, 1));
    limits("kind(0, v)", LimitsTest::three, 1, 40, (x, v) -> x.kind(0, v));
    // The other one is the middle one, which is neither the least nor the greatest.
    limits("deep(v, 1, 0)", LimitsTest::three, 0, 2, (x, v) -> x.deep(v, 1, 0));
    limits("deep(1, v, 0)", LimitsTest::three, 0, 2, (x, v) -> x.deep(1, v, 0));
    limits("deep(0, 1, v)", LimitsTest::three, 0, 40, (x, v) -> x.deep(0, 1, v));
    for (int m = 0; m < 3; m++) due("deep of one and the same", three().deep(m, m, 1), BEYOND);
    limits("shift(v)", LimitsTest::three, 1, 40, (x, v) -> x.shift(v));
    limits("bears(v, 0, 0)", LimitsTest::three, 0, 2, (x, v) -> x.bears(v, 0, 0));
    limits("bears(0, v, 0)", LimitsTest::three, 0, 40, (x, v) -> x.bears(0, v, 0));
    limits("bears(0, 0, v)", LimitsTest::three, 0, 10, (x, v) -> x.bears(0, 0, v));
    limits("wisest(v)", LimitsTest::three, 0, 100, (x, v) -> x.wisest(v));
  }

  private static void textCalls() {
    limits("feed(0, v)", LimitsTest::three, 1, 4, (x, v) -> x.feed(0, v));
    // The bytes themselves may be any.
    for (int bytes : new int[] {Integer.MIN_VALUE, -1, 0, 1, Integer.MAX_VALUE}) {
      due("feed(" + bytes + ", 4)", three().feed(bytes, 4), 4);
    }
  }

  private static void sheetCalls() {
    limits("sheet(v, 8, 1)", LimitsTest::three, 0, 3, (x, v) -> x.sheet(v, 8, 1));
    limits("sheet(v, 0, 1)", LimitsTest::three, 0, 3, (x, v) -> x.sheet(v, 0, 1));
    for (int bits = -70; bits <= 70; bits++) {
      boolean may = bits == 0 || bits == 8 || bits == 16 || bits == 64;
      due("sheet(0, " + bits + ", 40)", three().sheet(0, bits, 40), !may ? BEYOND : bits == 0 ? 0 : 40);
    }
    for (int bits : new int[] {0, 8, 16, 64}) {
      due("sheet(0, " + bits + ", -1)", three().sheet(0, bits, -1), SIZE);
      due("sheet(0, " + bits + ", least)", three().sheet(0, bits, Integer.MIN_VALUE), SIZE);
      due("sheet(0, " + bits + ", 0)", three().sheet(0, bits, 0), 0);
      due("sheet(0, " + bits + ", 41)", three().sheet(0, bits, 41), BEYOND);
      due("sheet(0, " + bits + ", greatest)", three().sheet(0, bits, Integer.MAX_VALUE), BEYOND);
    }
    limits("write(v, 0, 0)", LimitsTest::three, 0, 3, (x, v) -> x.write(v, 0, 0));
    limits("write(0, v, 0)", LimitsTest::three, 0, 4, (x, v) -> x.write(0, v, 0));
    limits("copy(v, 0, 1, 0, 1)", LimitsTest::three, 0, 3, (x, v) -> x.copy(v, 0, 1, 0, 1));
    limits("copy(0, 0, v, 0, 1)", LimitsTest::three, 0, 3, (x, v) -> x.copy(0, 0, v, 0, 1));
    limits("from: copy(0, v, 1, 0, 2)", LimitsTest::three, 0, 3, (x, v) -> x.copy(0, v, 1, 0, 2));
    limits("to: copy(0, 0, 1, v, 2)", LimitsTest::three, 0, 1, (x, v) -> x.copy(0, 0, 1, v, 2));
    limits("n by the target: copy(0, 0, 1, 0, v)", LimitsTest::three, 0, 3, (x, v) -> x.copy(0, 0, 1, 0, v));
    limits("n by the source: copy(1, 1, 0, 0, v)", LimitsTest::three, 0, 2, (x, v) -> x.copy(1, 1, 0, 0, v));
    limits("none, from: copy(0, v, 1, 0, 0)", LimitsTest::three, 0, 5, (x, v) -> x.copy(0, v, 1, 0, 0));
    limits("none, to: copy(0, 0, 1, v, 0)", LimitsTest::three, 0, 3, (x, v) -> x.copy(0, 0, 1, v, 0));
    limits("lays(v)", LimitsTest::three, 0, 3, (x, v) -> x.lays(v));
    limits("book(v, 0)", LimitsTest::three, 0, 3, (x, v) -> x.book(v, 0));
    limits("book(0, v)", LimitsTest::three, 0, 2, (x, v) -> x.book(0, v));
    limits("read(v, 0, 1)", LimitsTest::three, 0, 3, (x, v) -> x.read(v, 0, 1));
    limits("read(0, v, 1)", LimitsTest::three, 0, 2, (x, v) -> x.read(0, v, 1));
    limits("read(0, 1, v)", LimitsTest::three, 0, 2, (x, v) -> x.read(0, 1, v));
    for (int m = 0; m < 3; m++) due("read of one and the same", three().read(0, m, m), BEYOND);
  }

  private static void countCalls() {
    limits("count(v)", LimitsTest::three, 0, 3, (x, v) -> x.count(v));
    limits("status(v)", LimitsTest::three, -1, 6, (x, v) -> x.status(v));
  }

  /** With nobody there, no number of a MEMBER is good, not even 0. */
  private static void nobodyIsThere() {
    Supplier<BackVerses> made = () -> {
      BackVerses x = new BackVerses();
      x.sheet(0, 16, 2);
      return x;
    };
    With[] calls = {
      (x, m) -> x.of(m, 0), (x, m) -> x.set(m, 2, 0), (x, m) -> x.move(m, 0), (x, m) -> x.turn(m, 0),
      (x, m) -> x.as(m, 0), (x, m) -> x.on(m, 0, 0), (x, m) -> x.learns(m, 0), (x, m) -> x.best(m, 1),
      (x, m) -> x.kind(m, 1), (x, m) -> x.deep(m, m + 1, 0), (x, m) -> x.bears(m, 0, 0), (x, m) -> x.book(0, m),
      (x, m) -> x.read(0, m, m + 1)};
    for (int i = 0; i < calls.length; i++) {
      for (int m : new int[] {-1, 0, 1}) due("nobody there, call " + i, calls[i].call(made.get(), m), BEYOND);
    }
  }

  /** With ten there, 9 is the greatest number of a MEMBER. */
  private static void allAreThere() {
    Supplier<BackVerses> made = () -> {
      BackVerses x = new BackVerses();
      for (int m = 0; m < 10; m++) x.member(m % 6, 11 - m, m);
      x.sheet(0, 16, 2);
      return x;
    };
    limits("full: of(v, 0)", made, 0, 9, (x, v) -> x.of(v, 0));
    limits("full: set(v, 2, 0)", made, 0, 9, (x, v) -> x.set(v, 2, 0));
    limits("full: move(v, 0)", made, 0, 9, (x, v) -> x.move(v, 0));
    limits("full: turn(v, 0)", made, 0, 9, (x, v) -> x.turn(v, 0));
    limits("full: as(v, 0)", made, 0, 9, (x, v) -> x.as(v, 0));
    limits("full: on(v, 0, 0)", made, 0, 9, (x, v) -> x.on(v, 0, 0));
    limits("full: learns(v, 0)", made, 0, 9, (x, v) -> x.learns(v, 0));
    limits("full: best(v, 1)", made, 0, 9, (x, v) -> x.best(v, 1));
    limits("full: kind(v, 1)", made, 0, 9, (x, v) -> x.kind(v, 1));
    limits("full: deep(v, 5, 0)", made, 0, 9, (x, v) -> x.deep(v, 5, 0));
    limits("full: deep(5, v, 0)", made, 0, 9, (x, v) -> x.deep(5, v, 0));
    limits("full: bears(v, 0, 0)", made, 0, 9, (x, v) -> x.bears(v, 0, 0));
    limits("full: book(0, v)", made, 0, 9, (x, v) -> x.book(0, v));
    limits("full: read(0, v, 5)", made, 0, 9, (x, v) -> x.read(0, v, 5));
    limits("full: read(0, 5, v)", made, 0, 9, (x, v) -> x.read(0, 5, v));
    BackVerses x = made.get();
    due("full: verse(9)", x.verse(9), 0);
    due("full: verse(10)", x.verse(10), NONE);
  }
}
