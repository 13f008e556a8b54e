// Promises 1 to 35, one method each: what is answered at the edges that the document names (empty, full, the least
// and the greatest answer, of several the least, NONE). What arguments may be is in LimitsTest, what a refused call
// leaves in RefusalTest.
public final class EdgesTest {
  private static final int MEMBER = 0;
  private static final int ELDER = 1;
  private static final int BOY = 2;
  private static final int STRANGER = 3;
  private static final int HERETIC = 4;
  private static final int CHOIRBOY = 5;
  private static final int BEYOND = -1000000001;
  private static final int FULL = -1000000002;
  private static final int KIND = -1000000003;
  private static final int NONE = -1000000004;
  private static final int STATE = -1000000005;
  private static final int MISSING = -1000000006;
  private static final int SIZE = -1000000007;

  private static int wrong = 0;

  private static void due(String call, long got, long want) {
    if (got != want) {
      wrong++;
      System.out.println(call + " answered " + got + ", due is " + want);
    }
  }

  public static void main(String[] args) {
    p01(); p02(); p03(); p04(); p05(); p06(); p07(); p08(); p09(); p10(); p11(); p12(); p13(); p14(); p15(); p16();
    p17(); p18(); p19(); p20(); p21(); p22(); p23(); p24(); p25(); p26(); p27(); p28(); p29(); p30(); p31(); p32();
    p33(); p34(); p35();
    System.out.println(wrong == 0 ? "all answers are as due" : wrong + " answers are not as due");
    if (wrong != 0) System.exit(1);
  }

  /** MEMBER 0 of a KIND in SEAT 3 with VERSE 0, MEMBER 1 of another in SEAT 4 with VERSE 1. */
  private static BackVerses two(int kind, int otherKind) {
    BackVerses x = new BackVerses();
    x.member(kind, 3, 0);
    x.member(otherKind, 4, 1);
    return x;
  }

  private static BackVerses ten(int kind) {
    BackVerses x = new BackVerses();
    for (int m = 0; m < 10; m++) x.member(kind, m, m);
    return x;
  }

  private static int tell(BackVerses x, String text) {
    for (int i = 0; i < text.length(); i++) x.feed(text.charAt(i), 1);
    return x.chapel();
  }

  /** "Nobody there; THE TAPE is empty, no image is kept." */
  private static void p01() {
    BackVerses x = new BackVerses();
    due("1: nobody there", x.count(0), 0);
    due("1: NIGHT", x.now(0), 0);
    due("1: the tape", x.count(1), 0);
    due("1: no image", x.undo(), NONE);
    due("1: nothing to tear", x.tear(), 0);
    for (int s = 0; s < 4; s++) due("1: sheets are MISSING", x.lays(s), MISSING);
    // Objects have nothing in common.
    BackVerses other = two(MEMBER, MEMBER);
    other.feed(0, 1);
    other.image();
    other.sheet(0, 8, 1);
    other.seat(-1);
    x = new BackVerses();
    due("1: another's members", x.count(0), 0);
    due("1: another's tape", x.count(1), 0);
    due("1: another's image", x.tear(), 0);
    due("1: another's sheet", x.lays(0), MISSING);
    due("1: another's findings", x.status(0), 0);
  }

  /** "Who sits in a SEAT (-1: nobody)." */
  private static void p02() {
    BackVerses x = ten(MEMBER);
    for (int seat = 0; seat < 12; seat++) due("2: seat(" + seat + ")", x.seat(seat), seat < 10 ? seat : -1);
    x.move(9, 11);
    due("2: left", x.seat(9), -1);
    due("2: the last", x.seat(11), 9);
  }

  /** What each answers of nobody, and the most that it can answer. */
  private static void p03() {
    BackVerses x = new BackVerses();
    for (int what = 0; what < 6; what++) due("3: of nobody", x.now(what), 0);
    x = ten(STRANGER);
    due("3: all VERSES stand", x.now(2), 1023);
    due("3: none is known", x.now(3), 0);
    for (int m = 0; m < 10; m++) {
      x.set(m, 2, 9);
      x.set(m, 4, 1 << m);
      x.set(m, 5, 99);
    }
    due("3: one VERSE ten times", x.now(2), 512);
    due("3: one KNOWN by each", x.now(3), 1023);
    due("3: ten together", x.now(4), 10);
    due("3: TIRED of all", x.now(5), 990);
    for (int m = 0; m < 10; m++) x.set(m, 4, 1023);
    due("3: a hundred together", x.now(4), 100);
  }

  /** "(n from 0, by SEATS; the same one may stand twice) .. NONE: there are not so many." */
  private static void p04() {
    BackVerses x = new BackVerses();
    due("4: of nobody", x.verse(0), NONE);
    x.member(MEMBER, 11, 9);
    due("4: the only one", x.verse(0), 9);
    due("4: no second", x.verse(1), NONE);
    x.member(MEMBER, 0, 9);
    due("4: twice", x.verse(0), 9);
    due("4: twice", x.verse(1), 9);
    due("4: no third", x.verse(2), NONE);
    x.set(0, 2, 0);
    due("4: by SEATS, not by numbers", x.verse(0), 9);
    due("4: by SEATS, not by numbers", x.verse(1), 0);
  }

  /** "One more in a SEAT with a VERSE: the number. .. FULL. STATE: somebody sits there." */
  private static void p05() {
    BackVerses x = new BackVerses();
    due("5: the first", x.member(CHOIRBOY, 11, 9), 0);
    due("5: somebody sits there", x.member(MEMBER, 11, 0), STATE);
    due("5: no number is lost", x.member(MEMBER, 0, 0), 1);
    for (int m = 2; m < 10; m++) due("5: one more", x.member(MEMBER, m, m), m);
    due("5: an 11th", x.member(MEMBER, 1, 0), FULL);
    x.move(0, 1);
    due("5: a SEAT left is no room", x.member(MEMBER, 11, 0), FULL);
    x = new BackVerses();
    x.image();
    for (int m = 0; m < 10; m++) x.member(MEMBER, m, m);
    x.undo();
    due("5: room again", x.member(MEMBER, 0, 0), 0);
  }

  /** "7 whom it feels (-1: nobody), 8 1 if it READS that one this NIGHT, else 0". */
  private static void p06() {
    BackVerses x = new BackVerses();
    x.member(HERETIC, 11, 9);
    int[] alone = {HERETIC, 11, 9, 5, 0, 0, 2, -1, 0, 0};
    for (int what = 0; what < 10; what++) due("6: one alone, " + what, x.of(0, what), alone[what]);
    x.move(0, 9);
    x.member(MEMBER, 11, 0);
    x.set(0, 4, 1023);
    x.set(0, 5, 59);
    int[] most = {HERETIC, 9, 9, 5, 1023, 59, 2, 1, 1, 512};
    for (int what = 0; what < 10; what++) due("6: one with another, " + what, x.of(0, what), most[what]);
  }

  /** "becomes v: what it was." */
  private static void p07() {
    BackVerses x = two(MEMBER, MEMBER);
    int[][] values = {{2, 1, 0, 9}, {3, 5, 1, 9}, {4, 0, 0, 1023}, {5, 0, 0, 99}};
    for (int[] each : values) {
      due("7: at first", x.set(1, each[0], each[2]), each[1]);
      due("7: the least", x.set(1, each[0], each[3]), each[2]);
      due("7: the same again", x.set(1, each[0], each[3]), each[3]);
      due("7: too much", x.set(1, each[0], each[3] + 1), BEYOND);
      due("7: too little", x.set(1, each[0], each[2] - 1), BEYOND);
      due("7: as it was", x.of(1, each[0]), each[3]);
    }
    // A VERSE that another bears is as good as any.
    due("7: another's VERSE", x.set(0, 2, 9), 0);
  }

  /** "One goes to another SEAT: where it sat. .. STATE: somebody else sits there." */
  private static void p08() {
    BackVerses x = two(MEMBER, MEMBER);
    due("8: to the first SEAT", x.move(0, 0), 3);
    due("8: to the last SEAT", x.move(0, 11), 0);
    due("8: to its own", x.move(0, 11), 11);
    due("8: to another's", x.move(0, 4), STATE);
    due("8: still there", x.seat(11), 0);
    due("8: the other, too", x.seat(4), 1);
    due("8: to where the first sat", x.move(1, 3), 4);
    x.set(1, 4, 7);
    x.set(1, 5, 8);
    x.move(1, 5);
    due("8: KNOWS stays", x.of(1, 4), 7);
    due("8: TIRED stays", x.of(1, 5), 8);
  }

  /** "One becomes one of another KIND: what it was." */
  private static void p09() {
    BackVerses x = two(MEMBER, MEMBER);
    x.set(0, 4, 1);
    x.set(0, 5, 70);
    due("9: the greatest", x.turn(0, CHOIRBOY), MEMBER);
    due("9: the same", x.turn(0, CHOIRBOY), CHOIRBOY);
    due("9: refused", x.turn(0, 6), BEYOND);
    due("9: the least", x.turn(0, MEMBER), CHOIRBOY);
    due("9: KNOWS stays, its own VERSE too", x.of(0, 4), 1);
    due("9: TIRED stays", x.of(0, 5), 70);
    due("9: the other", x.of(1, 0), MEMBER);
  }

  /** "KIND: it isn't of that kind, nor of one under it." */
  private static void p10() {
    int[] above = {-1, 0, 0, 0, 1, 2};
    for (int kind = 0; kind < 6; kind++) {
      BackVerses x = two(kind, MEMBER);
      x.set(0, 4, 1023);
      for (int as = 0; as < 6; as++) {
        boolean is = as == kind || as == above[kind] || as == MEMBER;
        due("10: a " + kind + " as a " + as, x.as(0, as), is ? 1023 : KIND);
      }
    }
  }

  /** "n NIGHTS go (1 to 60): VERSES that somebody KNOWS then". NIGHT 99999 is in TermsTest. */
  private static void p11() {
    BackVerses x = new BackVerses();
    due("11: nobody", x.nights(1), 0);
    due("11: nobody", x.nights(60), 0);
    due("11: NIGHT", x.now(0), 61);
    x = two(MEMBER, STRANGER);
    x.set(1, 4, 512);
    due("11: then, not before", x.nights(1), 514);
    due("11: NIGHT", x.now(0), 1);
    BackVerses y = two(BOY, STRANGER);
    BackVerses z = two(BOY, STRANGER);
    for (BackVerses each : new BackVerses[] {y, z}) each.set(1, 3, 4);
    for (int i = 0; i < 60; i++) y.nights(1);
    z.nights(60);
    due("11: 60 at once are 60 one by one", z.of(0, 5), y.of(0, 5));
    due("11: NIGHT", z.now(0), 60);
  }

  /** "KNOWS (what 0), TIRED (1) of one n NIGHTS (0 to 100) AHEAD." */
  private static void p12() {
    BackVerses x = two(MEMBER, STRANGER);
    x.set(0, 5, 99);
    due("12: 0 NIGHTS, KNOWS", x.on(0, 0, 0), 0);
    due("12: 0 NIGHTS, TIRED", x.on(0, 0, 1), 99);
    due("12: TIRED 60 yet", x.on(0, 8, 0), 0);
    due("12: TIRED 59", x.on(0, 9, 0), 2);
    due("12: 100 NIGHTS", x.on(0, 100, 0), 2);
    due("12: NIGHT", x.now(0), 0);
    // 100 NIGHTS, told in two parts: the last one counts.
    int far = x.on(0, 100, 1);
    int before = x.on(0, 99, 1);
    x.nights(60);
    due("12: 99", x.on(0, 39, 1), before);
    x.nights(40);
    due("12: 100", x.of(0, 5), far);
    due("12: they differ", far == before ? 1 : 0, 0);
  }

  /** "In how many NIGHTS (0 to 100) one KNOWS a VERSE first. .. NONE." */
  private static void p13() {
    BackVerses x = two(MEMBER, STRANGER);
    due("13: one", x.learns(0, 1), 1);
    due("13: a VERSE that nobody bears", x.learns(0, 9), NONE);
    due("13: its own", x.learns(0, 0), NONE);
    x.set(0, 4, 1);
    due("13: its own, known", x.learns(0, 0), 0);
    // An ELDER of TIRED 99 reads after 14 NIGHTS of rest (99 - 13 * 3 is 60), in the 15th.
    x = two(ELDER, STRANGER);
    x.set(0, 5, 99);
    due("13: the latest reading of an ELDER", x.learns(0, 1), 15);
    x.turn(0, HERETIC);
    due("13: a HERETIC doesn't rest", x.learns(0, 1), NONE);
    // As late as it gets: an ELDER in front, and those who pass on what it reads one after the other.
    x = new BackVerses();
    for (int m = 0; m < 8; m++) x.member(STRANGER, m, 9);
    x.member(ELDER, 8, 9);
    x.member(STRANGER, 10, 0);
    x.set(8, 5, 99);
    due("13: eight hops later", x.learns(0, 0), 23);
  }

  /** "all KNOW a VERSE first (but STRANGERS, and those whose own it is)". */
  private static void p14() {
    BackVerses x = new BackVerses();
    for (int verse = 0; verse < 10; verse++) due("14: nobody", x.spreads(verse), 0);
    x.member(STRANGER, 0, 5);
    due("14: STRANGERS alone", x.spreads(9), 0);
    due("14: STRANGERS alone", x.spreads(5), 0);
    x.member(MEMBER, 4, 7);
    due("14: those whose own it is", x.spreads(7), 0);
    due("14: another", x.spreads(6), NONE);
    x.set(1, 4, 64);
    due("14: known now", x.spreads(6), 0);
    x.member(MEMBER, 3, 8);
    due("14: its own and one that reads it", x.spreads(7), 1);
    x.member(ELDER, 11, 9);
    due("14: one is left out", x.spreads(7), NONE);
    x.turn(3, STRANGER);
    due("14: no longer", x.spreads(7), 1);
    // The last of all counts: a MEMBER that is told at once, and one that has to rest first.
    x = two(MEMBER, STRANGER);
    x.member(MEMBER, 6, 2);
    x.member(STRANGER, 7, 1);
    x.set(2, 5, 99);
    due("14: the last one", x.spreads(1), 9);
  }

  /** "anybody KNOWS its own VERSE first. NONE." */
  private static void p15() {
    BackVerses x = new BackVerses();
    due("15: nobody", x.heresy(), NONE);
    for (int kind = 0; kind < 6; kind++) {
      x = two(kind, STRANGER);
      x.set(1, 4, 1);
      due("15: told its own", x.heresy(), kind == HERETIC ? 1 : NONE);
      x.set(1, 4, 2);
      due("15: the STRANGER's own", x.heresy(), 0);
      x.set(1, 4, 0);
      x.set(0, 4, 1);
      due("15: known now", x.heresy(), 0);
    }
    // A HERETIC reads its own on another's back.
    x = two(HERETIC, MEMBER);
    x.set(1, 2, 0);
    due("15: two mirrors", x.heresy(), 1);
    x.set(1, 3, 2);
    due("15: not plain enough", x.heresy(), NONE);
  }

  /** "The SEAT (with nobody else in it) in which one KNOWS most .. of several the least." */
  private static void p16() {
    BackVerses x = new BackVerses();
    x.member(MEMBER, 11, 0);
    due("16: alone, all alike", x.best(0, 1), 0);
    x.member(MEMBER, 0, 1);
    due("16: all alike, SEAT 0 taken", x.best(0, 1), 1);
    x.move(1, 11 - 1);
    due("16: behind the other", x.best(0, 1), 9);
    x.set(0, 4, 2);
    due("16: known anyway", x.best(0, 40), 0);
    x = two(MEMBER, MEMBER);
    due("16: its own SEAT", x.best(0, 1), 3);
    due("16: the others stay", x.of(0, 1), 3);
    // Two SEATS are as good: behind the other one and behind a third.
    x.member(MEMBER, 8, 2);
    due("16: of several the least", x.best(0, 1), 3);
    x.move(0, 7);
    due("16: of several the least", x.best(0, 1), 3);
    x = ten(MEMBER);
    due("16: full, two SEATS empty", x.best(9, 40), 9);
    due("16: full, the first", x.best(0, 40), 0);
  }

  /** "The KIND as one of which one KNOWS most .. of several the least." */
  private static void p17() {
    BackVerses x = new BackVerses();
    x.member(CHOIRBOY, 0, 0);
    due("17: all alike", x.kind(0, 1), MEMBER);
    x.member(STRANGER, 2, 1);
    due("17: two in front", x.kind(0, 1), ELDER);
    x.set(1, 2, 0);
    due("17: its own, two in front", x.kind(0, 1), HERETIC);
    due("17: it stays", x.of(0, 0), CHOIRBOY);
    // DEEP 4 is read by an ELDER at once, by a BOY in NIGHT 3; DEEP 3 by an ELDER alone.
    x = two(STRANGER, STRANGER);
    x.set(1, 3, 4);
    due("17: DEEP 4", x.kind(0, 1), ELDER);
    x.set(1, 3, 5);
    due("17: DEEP 5", x.kind(0, 1), MEMBER);
    x.set(1, 3, 2);
    due("17: DEEP 2", x.kind(0, 40), MEMBER);
    // At TIRED 69 a BOY is below 60 after one NIGHT, the others not.
    x.set(1, 3, 9);
    x.set(0, 5, 69);
    due("17: TIRED 69, one NIGHT", x.kind(0, 1), MEMBER);
    due("17: TIRED 69, two NIGHTS", x.kind(0, 2), BOY);
    // 69 less 2 * 5 is 59, so a MEMBER reads in the third NIGHT, too.
    due("17: TIRED 69, three NIGHTS", x.kind(0, 3), MEMBER);
  }

  /** "The least DEEP (1 to 9) of one with which another one KNOWS its VERSE". */
  private static void p18() {
    int[] least = {5, 3, 7, NONE, 3, 7};
    for (int kind = 0; kind < 6; kind++) {
      BackVerses x = two(kind, STRANGER);
      due("18: kind " + kind + ", 0 NIGHTS", x.deep(1, 0, 0), NONE);
      due("18: kind " + kind + ", 1 NIGHT", x.deep(1, 0, 1), least[kind]);
      x.set(1, 3, 1);
      due("18: its DEEP now doesn't count", x.deep(1, 0, 1), least[kind]);
      x.set(1, 3, 9);
      due("18: its DEEP now doesn't count", x.deep(1, 0, 1), least[kind]);
      due("18: it stays", x.of(1, 3), 9);
      x.set(0, 4, 2);
      due("18: known now", x.deep(1, 0, 0), 1);
      due("18: known now", x.deep(1, 0, 40), 1);
    }
    BackVerses x = two(BOY, STRANGER);
    int[] ofBoys = {NONE, 7, 6, 5, 4, 4};
    for (int n = 0; n < ofBoys.length; n++) due("18: a BOY, " + n + " NIGHTS", x.deep(1, 0, n), ofBoys[n]);
    due("18: the other way round", x.deep(0, 1, 40), NONE);
    // Through a third one: what the ELDER between them reads, it tells.
    x = two(STRANGER, ELDER);
    x.member(STRANGER, 6, 2);
    due("18: too early", x.deep(2, 0, 1), NONE);
    due("18: through a third", x.deep(2, 0, 2), 3);
  }

  /** "put into the least empty SEAT now .. of several the least. NONE: nobody is there". */
  private static void p19() {
    BackVerses x = new BackVerses();
    due("19: nobody", x.shift(1), NONE);
    x.member(MEMBER, 11, 0);
    due("19: one alone", x.shift(1), 0);
    x.member(MEMBER, 1, 1);
    due("19: in front of it there is one", x.shift(1), 0);
    due("19: they stay", x.seat(0), -1);
    x.move(1, 0);
    x.move(0, 2);
    // Into SEAT 1: MEMBER 0 is felt by the one behind; MEMBER 1 feels the one in front.
    due("19: of several the least", x.shift(1), 0);
    // The least empty SEAT is found now, not with the one taken out: SEAT 10, in front of all.
    x = ten(MEMBER);
    due("19: full, any other leaves a gap", x.shift(40), 0);
    x.set(9, 4, 1023);
    due("19: full", x.shift(1), 0);
    x.turn(0, STRANGER);
    x.turn(9, STRANGER);
    x.set(0, 4, 1023);
    x.set(9, 4, 0);
    // MEMBER 0 comes to SEAT 10, behind which MEMBER 9 is told all of it but its own.
    due("19: the one that tells", x.shift(1), 0);
  }

  /** "The greatest TIRED (0 to 99) of one now with which it KNOWS v (0 to 10) VERSES, or more". */
  private static void p20() {
    int[] inOne = {59, 59, 59, NONE, 59, 59};
    int[] inTwo = {64, 62, 69, NONE, 59, 69};
    int[] inMany = {99, 99, 99, NONE, 59, 99};
    for (int kind = 0; kind < 6; kind++) {
      BackVerses x = two(kind, STRANGER);
      x.set(1, 3, 9);
      x.set(0, 5, 80);
      due("20: none wanted", x.bears(0, 0, 0), 99);
      due("20: 0 NIGHTS", x.bears(0, 0, 1), NONE);
      due("20: kind " + kind + ", 1 NIGHT", x.bears(0, 1, 1), inOne[kind]);
      due("20: kind " + kind + ", 2 NIGHTS", x.bears(0, 2, 1), inTwo[kind]);
      due("20: kind " + kind + ", 40 NIGHTS", x.bears(0, 40, 1), inMany[kind]);
      due("20: two", x.bears(0, 40, 2), NONE);
      due("20: it stays", x.of(0, 5), 80);
      x.set(0, 4, 1023);
      due("20: all known", x.bears(0, 0, 10), 99);
      x.set(0, 4, 1023 - 2);
      due("20: all but one", x.bears(0, 0, 9), 99);
      due("20: all but one", x.bears(0, 0, 10), NONE);
      due("20: the last one", x.bears(0, 1, 10), inOne[kind]);
    }
    // A CHOIRBOY that must feel two SEATS far: with TIRED 9 at most, 19 a NIGHT later, and so on.
    BackVerses x = new BackVerses();
    x.member(CHOIRBOY, 0, 0);
    x.member(STRANGER, 2, 1);
    x.set(1, 3, 9);
    for (int n = 1; n <= 10; n++) due("20: " + n + " NIGHTS", x.bears(0, n, 1), n * 10 - 1);
    due("20: 11 NIGHTS", x.bears(0, 11, 1), 99);
  }

  /** "Who KNOWS most VERSES n NIGHTS (0 to 100) AHEAD; of several the least. .. NONE: nobody is there." */
  private static void p21() {
    BackVerses x = new BackVerses();
    due("21: nobody", x.wisest(0), NONE);
    x.member(MEMBER, 0, 0);
    due("21: one alone", x.wisest(100), 0);
    x = ten(MEMBER);
    due("21: all alike", x.wisest(0), 0);
    x.set(9, 4, 512);
    due("21: how many, not how great", x.wisest(0), 9);
    x.set(4, 4, 3);
    x.set(5, 4, 1023 - 511);
    due("21: most", x.wisest(0), 4);
    x.set(5, 4, 3 << 7);
    due("21: of several the least", x.wisest(0), 4);
    x.set(5, 4, 1023);
    due("21: all", x.wisest(0), 5);
    x = two(STRANGER, MEMBER);
    x.member(STRANGER, 5, 2);
    due("21: now all alike", x.wisest(0), 0);
    due("21: a NIGHT later", x.wisest(1), 1);
  }

  /** "gets the n lowest bytes of a number behind it, the highest of these first (n 1 to 4): how many it has. .. FULL." */
  private static void p22() {
    // "boy0 0", whose bytes come in parts of 4, 1 and 1; what is above the lowest bytes is left out.
    BackVerses x = new BackVerses();
    due("22: four", x.feed(0x626f7930, 4), 4);
    due("22: one", x.feed(0x7a7a7a20, 1), 5);
    due("22: one, of a number below 0", x.feed(0xffffff30, 1), 6);
    due("22: a good text", x.chapel(), 1);
    for (int n = 1; n <= 4; n++) {
      x = new BackVerses();
      for (int had = n; had <= 120; had += n) due("22: parts of " + n, x.feed(0x20202020, n), had);
      due("22: full", x.count(1), 120);
      for (int more = 1; more <= 4; more++) due("22: beyond full", x.feed(0, more), FULL);
      due("22: as many as before", x.count(1), 120);
    }
    for (int room = 0; room <= 4; room++) {
      for (int n = 1; n <= 4; n++) {
        x = new BackVerses();
        for (int had = 0; had < 120 - room; had++) x.feed(32, 1);
        due("22: " + n + " with room for " + room, x.feed(0x20202020, n), n <= room ? 120 - room + n : FULL);
        due("22: count(1)", x.count(1), n <= room ? 120 - room + n : 120 - room);
      }
    }
  }

  /** "THE TAPE is empty: how many it had." */
  private static void p23() {
    BackVerses x = new BackVerses();
    due("23: of an empty one", x.wipe(), 0);
    x.feed(0x626f7930, 4);
    due("23: four", x.wipe(), 4);
    due("23: empty", x.count(1), 0);
    due("23: empty", x.chapel(), -1);
    for (int i = 0; i < 30; i++) x.feed(0x20202020, 4);
    due("23: full", x.wipe(), 120);
    due("23: room again", x.feed(0, 4), 4);
  }

  /** The edges of THE TEXT: ten and an 11th, the full tape, the end that is too early, a FAULT. */
  private static void p24() {
    String ten = "boy0 0;boy1 1;boy2 2;boy3 3;boy4 4;boy5 5;boy6 6;boy7 7;boy8 8;boy9 9";
    BackVerses x = new BackVerses();
    due("24: ten", tell(x, ten), 10);
    due("24: ten there", x.count(0), 10);
    due("24: an 11th, its own place", tell(new BackVerses(), ten + "; boy 10 0"), -1 - 71);
    due("24: an 11th that is told wrongly, too", tell(new BackVerses(), ten + ";boy 0"), -1 - 70);
    due("24: no 11th, another WORD", tell(new BackVerses(), ten + ";bo"), -1 - 70);
    due("24: knows 9", tell(x, "knows 9 9"), 1);
    due("24: knows 10", tell(x, "knows 10 9"), -1 - 6);
    due("24: move 9", tell(x, "move 9 11"), 1);
    due("24: move 10", tell(x, "move 10 10"), -1 - 5);
    due("24: knows, nobody there", tell(new BackVerses(), "knows 0 0"), -1 - 6);
    due("24: move, nobody there", tell(new BackVerses(), "move 0 0"), -1 - 5);
    due("24: knows, one too early", tell(new BackVerses(), "boy 0 0;knows 1 0;boy 1 1"), -1 - 14);
    due("24: knows, by then", tell(new BackVerses(), "boy 0 0;boy 1 1;knows 1 0"), 3);
    due("24: a SEAT that was left by then", tell(new BackVerses(), "boy 0 0;move 0 1;boy 0 1"), 3);
    due("24: a SEAT that was taken by then", tell(new BackVerses(), "boy 0 0;move 0 1;boy 1 1"), -1 - 21);
    due("24: a move to its own SEAT", tell(new BackVerses(), "boy 0 0;move 0 0"), -1 - 15);
    due("24: knows it twice", tell(new BackVerses(), "boy 0 0;knows 0 9;knows 0 9"), 3);
    String[][] limits = {{"boy ", "0", "11", "12", " 0"}, {"boy 0 ", "0", "9", "10", ""},
      {"boy 0 0 deep ", "1", "9", "10", ""}, {"boy 0 0 deep ", "1", "9", "0", ""},
      {"boy 2 2;knows 0 ", "0", "9", "10", ""}, {"boy 2 2;move 0 ", "0", "11", "12", ""}};
    for (String[] each : limits) {
      int items = each[0].startsWith("boy 2") ? 2 : 1;
      due("24: the least", tell(new BackVerses(), each[0] + each[1] + each[4]), items);
      due("24: the greatest", tell(new BackVerses(), each[0] + each[2] + each[4]), items);
      due("24: beyond", tell(new BackVerses(), each[0] + each[3] + each[4]), -1 - each[0].length());
    }
    fullTapes();
    cutTexts();
  }

  private static String spaced(String text, int length) {
    StringBuilder spaced = new StringBuilder(text);
    while (spaced.length() < length) spaced.insert(text.indexOf(' '), ' ');
    return spaced.toString();
  }

  private static void fullTapes() {
    due("24: a full tape", tell(new BackVerses(), spaced("boy 0 0", 120)), 1);
    due("24: a full tape that ends too early", tell(new BackVerses(), spaced("boy 0 0;", 120)), -1 - 120);
    due("24: a full tape of blanks", tell(new BackVerses(), " ".repeat(120)), -1 - 120);
    due("24: a FAULT at the last byte", tell(new BackVerses(), spaced("boy 0 0!", 120)), -1 - 119);
    due("24: one long WORD", tell(new BackVerses(), "b".repeat(120)), -1);
    due("24: one long NUMBER", tell(new BackVerses(), "0".repeat(120)), -1);
    due("24: a long good NUMBER", tell(new BackVerses(), "boy 0 " + "0".repeat(113) + "9"), 1);
    due("24: a long bad NUMBER", tell(new BackVerses(), "boy 0 1" + "0".repeat(113)), -1 - 6);
  }

  /** "how many bytes there are if it ends too early": every cut of a text, but where a shorter one is good. */
  private static void cutTexts() {
    String text = "boy 1 2 deep 3;knows 0 4;move 0 5";
    for (int cut = 0; cut <= text.length(); cut++) {
      String part = text.substring(0, cut);
      String last = part.substring(Math.max(part.lastIndexOf(' '), part.lastIndexOf(';')) + 1);
      boolean cutWord = !last.isEmpty() && Character.isLetter(last.charAt(0))
          && !last.equals("boy") && !last.equals("deep") && !last.equals("knows") && !last.equals("move");
      int items = part.equals("boy 1 2") || part.equals("boy 1 2 ") || part.equals("boy 1 2 deep 3") ? 1
          : part.equals("boy 1 2 deep 3;knows 0 4") ? 2 : part.equals(text) ? 3 : 0;
      long want = items > 0 ? items : cutWord ? -1 - (cut - last.length()) : -1 - cut;
      due("24: cut to " + part, tell(new BackVerses(), part), want);
    }
  }

  /** "A sheet has n numbers, all 0 .. bits 0: it is MISSING: n (0 if it is MISSING)." */
  private static void p25() {
    BackVerses x = new BackVerses();
    due("25: none", x.sheet(3, 8, 0), 0);
    due("25: it isn't MISSING", x.lays(3), 0);
    due("25: but has no number", x.write(3, 0, 0), BEYOND);
    due("25: forty", x.sheet(3, 64, 40), 40);
    due("25: the last number", x.write(3, 39, -1), 0);
    due("25: none beyond it", x.write(3, 40, -1), BEYOND);
    due("25: fewer", x.sheet(3, 64, 39), 39);
    due("25: no longer there", x.write(3, 39, -1), BEYOND);
    due("25: forty again", x.sheet(3, 64, 40), 40);
    due("25: all 0", x.write(3, 39, 0), 0);
    due("25: MISSING with n 40", x.sheet(3, 0, 40), 0);
    due("25: MISSING", x.lays(3), MISSING);
    due("25: MISSING twice", x.sheet(3, 0, 0), 0);
    due("25: n below 0 of a MISSING one", x.sheet(3, 0, -1), SIZE);
    due("25: the others are MISSING, too", x.lays(2), MISSING);
  }

  /** "becomes v (its lowest bits): what it was." */
  private static void p26() {
    long[] values = {0, 1, -1, 127, 128, -128, -129, 255, 256, 32767, 32768, -32768, -32769, 65535, 65536, 1L << 31,
      1L << 32, Integer.MIN_VALUE, Long.MAX_VALUE, Long.MIN_VALUE};
    BackVerses x = new BackVerses();
    x.sheet(0, 8, 3);
    x.sheet(1, 16, 3);
    x.sheet(2, 64, 3);
    for (long v : values) {
      for (int s = 0; s < 3; s++) x.write(s, 1, v);
      due("26: 8 bits of " + v, x.write(0, 1, 0), (byte) v);
      due("26: 16 bits of " + v, x.write(1, 1, 0), (short) v);
      due("26: 64 bits of " + v, x.write(2, 1, 0), v);
    }
    for (int s = 0; s < 3; s++) {
      due("26: the one before", x.write(s, 0, 0), 0);
      due("26: the one behind", x.write(s, 2, 0), 0);
    }
  }

  private static BackVerses lettered() {
    BackVerses x = new BackVerses();
    x.sheet(0, 64, 5);
    x.sheet(1, 64, 40);
    for (int i = 0; i < 5; i++) x.write(0, i, i + 1);
    return x;
  }

  private static void row(BackVerses x, int s, String what, long... want) {
    for (int i = 0; i < want.length; i++) due(what + ", number " + i, x.write(s, i, 0), want[i]);
  }

  /** "n numbers of a sheet from one on come to another one from one on (as they all were): n." */
  private static void p27() {
    BackVerses x = lettered();
    due("27: all", x.copy(0, 0, 1, 35, 5), 5);
    due("27: the last", x.write(1, 39, 0), 5);
    due("27: the first", x.write(1, 35, 0), 1);
    x = lettered();
    due("27: one too many", x.copy(0, 0, 1, 36, 5), BEYOND);
    due("27: one too many", x.copy(0, 1, 1, 0, 5), BEYOND);
    due("27: none", x.copy(0, 5, 1, 40, 0), 0);
    due("27: none, beyond", x.copy(0, 6, 1, 40, 0), BEYOND);
    due("27: none, beyond", x.copy(0, 5, 1, 41, 0), BEYOND);
    due("27: the last one to the last", x.copy(0, 4, 1, 39, 1), 1);
    due("27: it came", x.write(1, 39, 0), 5);
    x = lettered();
    due("27: forwards, one sheet", x.copy(0, 0, 0, 1, 4), 4);
    row(x, 0, "27: as they were", 1, 1, 2, 3, 4);
    x = lettered();
    due("27: backwards, one sheet", x.copy(0, 1, 0, 0, 4), 4);
    row(x, 0, "27: as they were", 2, 3, 4, 5, 5);
    x = lettered();
    int big = Integer.MAX_VALUE;
    due("27: from and n that wrap", x.copy(0, big, 1, 0, 1), BEYOND);
    due("27: from and n that wrap", x.copy(0, 2, 1, 0, big), BEYOND);
    due("27: to and n that wrap", x.copy(0, 0, 1, big, 1), BEYOND);
    due("27: from below 0 and n above", x.copy(0, -big, 1, 0, big), BEYOND);
    row(x, 0, "27: unchanged", 1, 2, 3, 4, 5);
    x.sheet(2, 8, 0);
    x.sheet(3, 8, 0);
    due("27: none of none", x.copy(2, 0, 3, 0, 0), 0);
    due("27: one of none", x.copy(2, 0, 3, 0, 1), BEYOND);
  }

  /** "(those that aren't 0 to 1023, or stand for none, are left out): how many came." */
  private static void p28() {
    BackVerses x = two(MEMBER, MEMBER);
    x.sheet(0, 64, 3);
    long[][] numbers = {{0, 1}, {1023, 1}, {1024, 0}, {-1, 0}, {Long.MAX_VALUE, 0}, {Long.MIN_VALUE, 0},
      {1L << 32, 0}, {(1L << 32) + 5, 0}};
    for (long[] each : numbers) {
      x.set(1, 4, 77);
      x.write(0, 0, -1);
      x.write(0, 1, each[0]);
      due("28: lays " + each[0], x.lays(0), each[1]);
      due("28: KNOWS", x.of(1, 4), each[1] == 1 ? each[0] : 77);
    }
    x.write(0, 0, 1);
    x.write(0, 1, 2);
    x.write(0, 2, 4);
    due("28: the third stands for none", x.lays(0), 2);
    due("28: its own VERSE, too", x.of(0, 4), 1);
    x.sheet(0, 64, 1);
    due("28: fewer numbers than members", x.lays(0), 1);
    due("28: KNOWS", x.of(0, 4), 0);
    due("28: the other's", x.of(1, 4), 2);
    x.sheet(0, 64, 0);
    due("28: no numbers", x.lays(0), 0);
    x = new BackVerses();
    x.sheet(0, 8, 40);
    due("28: nobody", x.lays(0), 0);
    x = ten(MEMBER);
    x.sheet(0, 16, 40);
    for (int i = 0; i < 40; i++) x.write(0, i, 1023);
    due("28: ten", x.lays(0), 10);
    due("28: together", x.now(4), 100);
  }

  /** "0, 1, 2, .. NIGHTS AHEAD comes to a sheet, as many as it has numbers: how many." */
  private static void p29() {
    BackVerses x = two(MEMBER, STRANGER);
    x.set(0, 5, 99);
    x.sheet(0, 16, 0);
    due("29: none", x.book(0, 0), 0);
    x.sheet(0, 16, 1);
    x.set(0, 4, 512);
    due("29: now alone", x.book(0, 0), 1);
    row(x, 0, "29: now", 512);
    x.sheet(0, 16, 40);
    due("29: forty", x.book(0, 0), 40);
    for (int i = 0; i < 40; i++) due("29: NIGHT " + i, x.write(0, i, 0), i < 9 ? 512 : 514);
    x.sheet(0, 8, 2);
    x.set(0, 4, 128 + 256);
    x.book(0, 0);
    row(x, 0, "29: the lowest bits", -128, -128);
    due("29: nothing else changes", x.of(0, 4), 384);
  }

  /** "how many pairs of a KIND of it and a KIND of another one make it just so." */
  private static void p30() {
    BackVerses x = two(MEMBER, STRANGER);
    x.sheet(0, 16, 0);
    due("30: no numbers, all pairs", x.read(0, 0, 1), 36);
    x.sheet(0, 16, 1);
    due("30: now alone, all pairs", x.read(0, 0, 1), 36);
    x.write(0, 0, 1);
    due("30: now otherwise", x.read(0, 0, 1), 0);
    x.sheet(0, 16, 2);
    x.write(0, 1, 2);
    // DEEP 5 in NIGHT 0: MEMBER, ELDER and HERETIC read it, whatever the other one is.
    due("30: those that read DEEP 5", x.read(0, 0, 1), 18);
    due("30: in vain, the other way round", x.read(0, 1, 0), 0);
    x.write(0, 1, 0);
    due("30: those that don't", x.read(0, 0, 1), 18);
    x.sheet(0, 16, 40);
    x.book(0, 0);
    due("30: forty, just so", x.read(0, 0, 1), 18);
    x.write(0, 39, 0);
    due("30: the last is otherwise", x.read(0, 0, 1), 0);
    due("30: nothing changes", x.of(0, 0), MEMBER);
    due("30: nothing changes", x.of(1, 0), STRANGER);
    x.sheet(1, 64, 1);
    x.write(1, 0, 1L << 32);
    due("30: a number that is too great", x.read(1, 0, 1), 0);
    x.write(1, 0, -1024);
    due("30: a number below 0", x.read(1, 0, 1), 0);
  }

  /** "All that section 1 tells (THE TAPE not) is kept: 1." */
  private static void p31() {
    BackVerses x = new BackVerses();
    due("31: of nobody", x.image(), 1);
    due("31: again", x.image(), 1);
    x.member(MEMBER, 11, 9);
    x.feed(65, 1);
    x.sheet(0, 8, 1);
    due("31: nobody again", x.undo(), 0);
    due("31: the SEAT, too", x.seat(11), -1);
    due("31: THE TAPE not", x.count(1), 1);
    due("31: sheets not", x.lays(0), 0);
    x = ten(CHOIRBOY);
    x.nights(60);
    x.image();
    x.nights(60);
    for (int m = 0; m < 10; m++) x.turn(m, MEMBER);
    due("31: ten", x.undo(), 10);
    due("31: NIGHT", x.now(0), 60);
    for (int m = 0; m < 10; m++) due("31: KIND", x.of(m, 0), CHOIRBOY);
  }

  /** "It becomes what was kept latest (which stays): how many MEMBERS. NONE: nothing is kept." */
  private static void p32() {
    BackVerses x = new BackVerses();
    due("32: nothing is kept", x.undo(), NONE);
    x.image();
    x.member(MEMBER, 0, 0);
    x.image();
    x.member(MEMBER, 1, 1);
    due("32: the latest", x.undo(), 1);
    x.nights(5);
    due("32: it stays", x.undo(), 1);
    due("32: NIGHT", x.now(0), 0);
    x.set(0, 4, 1023);
    due("32: what came later isn't kept", x.undo(), 1);
    due("32: KNOWS", x.of(0, 4), 0);
    x.tear();
    due("32: nothing is kept any more", x.undo(), NONE);
    due("32: as it was", x.count(0), 1);
  }

  /** "Nothing is kept: 1 if something was, else 0." */
  private static void p33() {
    BackVerses x = new BackVerses();
    due("33: nothing was", x.tear(), 0);
    x.image();
    x.image();
    due("33: of two images", x.tear(), 1);
    due("33: none is left", x.tear(), 0);
    due("33: none is left", x.undo(), NONE);
    x.image();
    x.undo();
    due("33: undo leaves it", x.tear(), 1);
    x.image();
    due("33: kept anew", x.undo(), 0);
  }

  /** "0 MEMBERS, 1 bytes of THE TAPE, 2 DEEP of all together, 3 SEATS that are empty." */
  private static void p34() {
    BackVerses x = new BackVerses();
    int[] none = {0, 0, 0, 12};
    for (int what = 0; what < 4; what++) due("34: of nobody", x.count(what), none[what]);
    x = ten(MEMBER);
    for (int i = 0; i < 30; i++) x.feed(0, 4);
    for (int m = 0; m < 10; m++) x.set(m, 3, 9);
    int[] most = {10, 120, 90, 2};
    for (int what = 0; what < 4; what++) due("34: of ten", x.count(what), most[what]);
    for (int m = 0; m < 10; m++) x.set(m, 3, 1);
    due("34: the least of ten", x.count(2), 10);
  }

  /** "How many acts answered a finding ever (undo() takes none back) .. BEYOND (counted from then on)". */
  private static void p35() {
    BackVerses x = new BackVerses();
    due("35: itself, not yet counted", x.status(7), BEYOND);
    due("35: from then on", x.status(0), 1);
    due("35: all", x.status(-1), 1);
    due("35: itself again", x.status(-2), BEYOND);
    due("35: from then on", x.status(-1), 2);
    x.image();
    due("35: one more", x.seat(12), BEYOND);
    x.undo();
    due("35: undo takes none back", x.status(0), 3);
    x.tear();
    x.wipe();
    due("35: nor do others", x.status(-1), 3);
    due("35: -1 of seat() is no finding", x.seat(0), -1);
    due("35: a FAULT is none", x.chapel(), -1);
    due("35: all", x.status(-1), 3);
    for (int i = 0; i < 400; i++) x.undo();
    due("35: four hundred", x.status(3), 400);
    due("35: all", x.status(-1), 403);
  }
}
