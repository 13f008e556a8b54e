// Promises 1 to 10: a new object, the chapel and its members, and what each KIND does.
public final class ChapelTest {
  private static final int BEYOND = -1000000001;
  private static final int FULL = -1000000002;
  private static final int KIND = -1000000003;
  private static final int NONE = -1000000004;
  private static final int STATE = -1000000005;
  private static final int MISSING = -1000000006;
  private static final int[] WILD = {Integer.MIN_VALUE, -1000000001, -2, -1, Integer.MAX_VALUE};

  private static int wrong = 0;

  private static void due(String call, long got, long want) {
    if (got != want) {
      wrong++;
      System.out.println(call + " answered " + got + ", due is " + want);
    }
  }

  public static void main(String[] args) {
    newObject();
    seats();
    now();
    verses();
    members();
    setting();
    moving();
    turning();
    feels();
    reads();
    tells();
    tires();
    System.out.println(wrong == 0 ? "all answers are as due" : wrong + " answers are not as due");
    if (wrong != 0) System.exit(1);
  }

  private static void newObject() {
    BackVerses x = new BackVerses();
    for (int seat = 0; seat < 12; seat++) due("new: seat(" + seat + ")", x.seat(seat), -1);
    for (int what = 0; what < 6; what++) due("new: now(" + what + ")", x.now(what), 0);
    due("new: count(0)", x.count(0), 0);
    due("new: count(1)", x.count(1), 0);
    due("new: count(2)", x.count(2), 0);
    due("new: count(3)", x.count(3), 12);
    due("new: wipe()", x.wipe(), 0);
    due("new: tear()", x.tear(), 0);
    for (int which = -1; which < 7; which++) due("new: status(" + which + ")", x.status(which), 0);
    due("new: undo()", x.undo(), NONE);
    for (int s = 0; s < 4; s++) due("new: write(" + s + ", 0, 0)", x.write(s, 0, 0), MISSING);
    due("new: of(0, 0)", x.of(0, 0), BEYOND);
    due("new: chapel()", x.chapel(), -1);
  }

  private static void seats() {
    BackVerses x = new BackVerses();
    due("member(2, 11, 4)", x.member(2, 11, 4), 0);
    due("member(0, 0, 4)", x.member(0, 0, 4), 1);
    due("seat(11)", x.seat(11), 0);
    due("seat(0)", x.seat(0), 1);
    due("seat(5)", x.seat(5), -1);
    due("seat(12)", x.seat(12), BEYOND);
    for (int w : WILD) due("seat(" + w + ")", x.seat(w), BEYOND);
  }

  private static void now() {
    BackVerses x = new BackVerses();
    x.member(0, 5, 3);
    due("one alone: now(1)", x.now(1), 0);
    x.member(1, 2, 9);
    due("2 and 5: now(1)", x.now(1), 8 + 16);
    x.member(2, 9, 9);
    due("2, 5 and 9: now(1)", x.now(1), 8 + 16 + 64 + 128 + 256);
    x.move(2, 11);
    x.move(1, 0);
    due("0, 5 and 11: now(1)", x.now(1), 2 + 4 + 8 + 16 + 64 + 128 + 256 + 512 + 1024);
    due("now(2)", x.now(2), 8 + 512);
    x.set(0, 4, 7);
    x.set(1, 4, 6);
    x.set(2, 4, 1023);
    due("now(3)", x.now(3), 1023);
    due("now(4)", x.now(4), 3 + 2 + 10);
    x.set(2, 4, 256);
    due("now(3)", x.now(3), 256 + 7);
    x.set(0, 5, 99);
    x.set(1, 5, 98);
    due("now(5)", x.now(5), 197);
    x.nights(7);
    due("now(0)", x.now(0), 7);
    due("now(6)", x.now(6), BEYOND);
    for (int w : WILD) due("now(" + w + ")", x.now(w), BEYOND);
  }

  private static void verses() {
    BackVerses x = new BackVerses();
    due("nobody: verse(0)", x.verse(0), NONE);
    x.member(0, 11, 1);
    x.member(0, 4, 8);
    x.member(0, 7, 8);
    due("verse(0)", x.verse(0), 8);
    due("verse(1)", x.verse(1), 8);
    due("verse(2)", x.verse(2), 1);
    due("verse(3)", x.verse(3), NONE);
    due("verse(max)", x.verse(Integer.MAX_VALUE), NONE);
    due("verse(-1)", x.verse(-1), BEYOND);
    due("verse(min)", x.verse(Integer.MIN_VALUE), BEYOND);
    x.member(0, 0, 5);
    due("the first seat: verse(0)", x.verse(0), 5);
    due("verse(1)", x.verse(1), 8);
  }

  private static void members() {
    BackVerses x = new BackVerses();
    for (int w : WILD) {
      due("member(" + w + ", 0, 0)", x.member(w, 0, 0), BEYOND);
      due("member(0, " + w + ", 0)", x.member(0, w, 0), BEYOND);
      due("member(0, 0, " + w + ")", x.member(0, 0, w), BEYOND);
    }
    due("member(6, 0, 0)", x.member(6, 0, 0), BEYOND);
    due("member(0, 12, 0)", x.member(0, 12, 0), BEYOND);
    due("member(0, 0, 10)", x.member(0, 0, 10), BEYOND);
    for (int m = 0; m < 9; m++) due("member " + m, x.member(m % 6, 11 - m, m), m);
    due("a seat taken", x.member(0, 11, 0), STATE);
    due("member 9", x.member(5, 0, 9), 9);
    due("an 11th in a seat taken", x.member(0, 0, 0), FULL);
    due("an 11th in an empty seat", x.member(0, 1, 0), FULL);
    due("an 11th of no kind", x.member(6, 0, 0), BEYOND);
    for (int m = 0; m < 10; m++) {
      due("of(" + m + ", 0)", x.of(m, 0), m == 9 ? 5 : m % 6);
      due("of(" + m + ", 1)", x.of(m, 1), m == 9 ? 0 : 11 - m);
      due("of(" + m + ", 2)", x.of(m, 2), m);
      due("of(" + m + ", 3)", x.of(m, 3), 5);
      due("of(" + m + ", 4)", x.of(m, 4), 0);
      due("of(" + m + ", 5)", x.of(m, 5), 0);
    }
    due("of(10, 0)", x.of(10, 0), BEYOND);
    due("of(0, 10)", x.of(0, 10), BEYOND);
    for (int w : WILD) {
      due("of(" + w + ", 0)", x.of(w, 0), BEYOND);
      due("of(0, " + w + ")", x.of(0, w), BEYOND);
    }
    due("status(0)", x.status(0), 15 + 3 + 1 + 2 + 10);
    due("status(1)", x.status(1), 2);
    due("status(4)", x.status(4), 1);
  }

  private static void setting() {
    BackVerses x = new BackVerses();
    x.member(0, 0, 0);
    x.member(1, 1, 1);
    int[][] limits = {{2, 0, 9, 1}, {3, 1, 9, 5}, {4, 0, 1023, 0}, {5, 0, 99, 0}};
    for (int[] limit : limits) {
      int what = limit[0];
      due("set(1, " + what + ", below)", x.set(1, what, limit[1] - 1), BEYOND);
      due("set(1, " + what + ", above)", x.set(1, what, limit[2] + 1), BEYOND);
      for (int w : WILD) due("set(1, " + what + ", " + w + ")", x.set(1, what, w), BEYOND);
      due("set(1, " + what + ", least)", x.set(1, what, limit[1]), limit[3]);
      due("set(1, " + what + ", most)", x.set(1, what, limit[2]), limit[1]);
      due("of(1, " + what + ")", x.of(1, what), limit[2]);
    }
    due("set(0, 0, 1)", x.set(0, 0, 1), BEYOND);
    due("set(0, 1, 1)", x.set(0, 1, 1), BEYOND);
    due("set(0, 6, 1)", x.set(0, 6, 1), BEYOND);
    due("set(2, 2, 1)", x.set(2, 2, 1), BEYOND);
    for (int w : WILD) {
      due("set(0, " + w + ", 1)", x.set(0, w, 1), BEYOND);
      due("set(" + w + ", 2, 1)", x.set(w, 2, 1), BEYOND);
    }
    due("the other's VERSE", x.of(0, 2), 0);
    due("the other's DEEP", x.of(0, 3), 5);
  }

  private static void moving() {
    BackVerses x = new BackVerses();
    x.member(0, 3, 0);
    x.member(0, 4, 1);
    due("move(0, 11)", x.move(0, 11), 3);
    due("seat(3)", x.seat(3), -1);
    due("seat(11)", x.seat(11), 0);
    due("of(0, 1)", x.of(0, 1), 11);
    due("to its own seat", x.move(0, 11), 11);
    due("seat(11)", x.seat(11), 0);
    due("to another's seat", x.move(0, 4), STATE);
    due("of(0, 1)", x.of(0, 1), 11);
    due("move(0, 12)", x.move(0, 12), BEYOND);
    due("move(2, 4)", x.move(2, 4), BEYOND);
    for (int w : WILD) {
      due("move(0, " + w + ")", x.move(0, w), BEYOND);
      due("move(" + w + ", 0)", x.move(w, 0), BEYOND);
    }
  }

  private static void turning() {
    int[][] under = {
      {1, 1, 1, 1, 1, 1}, {0, 1, 0, 0, 1, 0}, {0, 0, 1, 0, 0, 1},
      {0, 0, 0, 1, 0, 0}, {0, 0, 0, 0, 1, 0}, {0, 0, 0, 0, 0, 1}};
    BackVerses x = new BackVerses();
    x.member(3, 0, 0);
    x.set(0, 4, 77);
    int was = 3;
    for (int kind = 0; kind < 6; kind++) {
      due("turn(0, " + kind + ")", x.turn(0, kind), was);
      due("again", x.turn(0, kind), kind);
      due("of(0, 0)", x.of(0, 0), kind);
      was = kind;
      for (int as = 0; as < 6; as++) due(kind + " as " + as, x.as(0, as), under[as][kind] == 1 ? 77 : KIND);
    }
    due("turn(0, 6)", x.turn(0, 6), BEYOND);
    due("turn(1, 0)", x.turn(1, 0), BEYOND);
    due("as(0, 6)", x.as(0, 6), BEYOND);
    due("as(1, 0)", x.as(1, 0), BEYOND);
    for (int w : WILD) {
      due("turn(0, " + w + ")", x.turn(0, w), BEYOND);
      due("turn(" + w + ", 0)", x.turn(w, 0), BEYOND);
      due("as(0, " + w + ")", x.as(0, w), BEYOND);
      due("as(" + w + ", 0)", x.as(w, 0), BEYOND);
    }
    due("of(0, 0)", x.of(0, 0), 5);
  }

  private static void feels() {
    int[] rested = {1, 2, 1, 0, 2, 2};
    int[] tired = {1, 2, 1, 0, 2, 1};
    for (int kind = 0; kind < 6; kind++) {
      BackVerses x = new BackVerses();
      x.member(kind, 3, 0);
      x.member(0, 5, 1);
      x.set(0, 5, 9);
      due("kind " + kind + " FEELS, TIRED 9", x.of(0, 6), rested[kind]);
      due("kind " + kind + " whom, TIRED 9", x.of(0, 7), rested[kind] == 2 ? 1 : -1);
      x.set(0, 5, 10);
      due("kind " + kind + " FEELS, TIRED 10", x.of(0, 6), tired[kind]);
      due("kind " + kind + " whom, TIRED 10", x.of(0, 7), tired[kind] == 2 ? 1 : -1);
      x.set(0, 5, 0);
      x.member(0, 6, 2);
      x.move(1, 6 + 1);
      x.move(2, 5);
      x.member(0, 4, 3);
      due("kind " + kind + " feels the nearest", x.of(0, 7), rested[kind] == 0 ? -1 : 3);
      x.move(0, 11);
      due("kind " + kind + " in the last seat", x.of(0, 7), -1);
      x.move(0, 10);
      x.move(1, 11);
      due("kind " + kind + " in the last but one", x.of(0, 7), rested[kind] == 0 ? -1 : 1);
      due("kind " + kind + " isn't felt from in front", x.of(1, 7), -1);
    }
  }

  private static boolean getsAt(int kind, int deep, int night) {
    switch (kind) {
      case 0: return deep >= 5;
      case 1: case 4: return deep >= 3;
      case 2: case 5: return deep >= 7 - night % 4;
      default: return false; // a STRANGER feels nobody
    }
  }

  private static void reads() {
    for (int kind = 0; kind < 6; kind++) {
      BackVerses x = new BackVerses();
      x.member(kind, 0, 0);
      x.member(3, 1, 1);
      for (int night = 0; night < 6; night++) {
        for (int deep = 1; deep <= 9; deep++) {
          x.set(1, 3, deep);
          String who = "kind " + kind + " DEEP " + deep + " NIGHT " + night;
          x.set(0, 5, 59);
          due(who + " READS", x.of(0, 8), getsAt(kind, deep, night) ? 1 : 0);
          x.set(0, 5, 60);
          due(who + " READS, tired", x.of(0, 8), 0);
        }
        x.nights(1);
      }
      x.move(1, 11);
      due("kind " + kind + " READS nobody", x.of(0, 8), 0);
    }
  }

  private static int toldBy(int kind, int knows) {
    int least = Integer.lowestOneBit(knows);
    int greatest = Integer.highestOneBit(knows);
    switch (kind) {
      case 1: return least;
      case 2: case 5: return knows - greatest;
      case 3: return knows;
      case 4: return Integer.bitCount(knows) >= 4 ? greatest : least;
      default: return 0;
    }
  }

  private static void tells() {
    for (int kind = 0; kind < 6; kind++) {
      BackVerses x = null;
      for (int knows = 0; knows < 1024; knows++) {
        if (knows % 128 == 0) {
          x = new BackVerses();
          x.member(kind, 0, 0);
        }
        x.set(0, 4, knows);
        due("kind " + kind + " TELLS of " + knows, x.of(0, 9), toldBy(kind, knows));
      }
    }
  }

  private static void tires() {
    int[] reading = {3, 5, 6, 0, 8, 6};
    int[] idle = {-5, -3, -10, 0, 0, -10};
    for (int kind = 0; kind < 6; kind++) {
      BackVerses x = new BackVerses();
      x.member(kind, 0, 0);
      x.member(0, 1, 1);
      x.set(1, 3, 9);
      x.set(0, 5, 20);
      x.nights(1);
      due("kind " + kind + " TIRED, reading", x.of(0, 5), 20 + reading[kind]);
      x.set(0, 5, 59);
      x.nights(1);
      due("kind " + kind + " TIRED, reading at 59", x.of(0, 5), 59 + reading[kind]);
      x.set(0, 5, 60);
      x.nights(1);
      due("kind " + kind + " TIRED, too tired", x.of(0, 5), 60 + idle[kind]);
      x.move(1, 11);
      x.set(0, 5, 99);
      x.nights(1);
      due("kind " + kind + " TIRED, alone", x.of(0, 5), 99 + idle[kind]);
      x.set(0, 5, 2);
      x.nights(1);
      due("kind " + kind + " TIRED, alone at 2", x.of(0, 5), Math.max(0, 2 + idle[kind]));
    }
  }
}
