// The section "Terms", sentence by sentence: the limits of NIGHT, SEATS, MEMBERS, VERSES, DEEP, KNOWS, TIRED, of THE
// TAPE, of NUMBERS in THE TEXT and of SHEETS; what is held at its limit; where a row ends and does not go round.
public final class TermsTest {
  private static final int MEMBER = 0;
  private static final int ELDER = 1;
  private static final int BOY = 2;
  private static final int STRANGER = 3;
  private static final int HERETIC = 4;
  private static final int CHOIRBOY = 5;
  private static final int BEYOND = -1000000001;
  private static final int FULL = -1000000002;
  private static final int STATE = -1000000005;

  private static int wrong = 0;

  private static void due(String call, long got, long want) {
    if (got != want) {
      wrong++;
      System.out.println(call + " answered " + got + ", due is " + want);
    }
  }

  public static void main(String[] args) {
    findingsInLongs();
    lastNight();
    rowEndsInFront();
    rowEndsBehind();
    justInFrontAndJustBehind();
    nearestOfTwo();
    firstValues();
    depthsOfReading();
    nightsOfBoys();
    nineIsAlwaysRead();
    tooTired();
    livelyChoirboy();
    hereticOfFour();
    toldOfFew();
    strangersReadNobody();
    tiredHeldAtNought();
    tiredStaysAtMost();
    tiredAtMostByReading();
    ownVerse();
    knowsNeverLess();
    asTheNightBegins();
    gaps();
    numbersOfTheText();
    sheetsAreFour();
    System.out.println(wrong == 0 ? "all answers are as due" : wrong + " answers are not as due");
    if (wrong != 0) System.exit(1);
  }

  private static BackVerses two(int kind, int seat, int otherKind, int otherSeat) {
    BackVerses x = new BackVerses();
    x.member(kind, seat, 0);
    x.member(otherKind, otherSeat, 1);
    return x;
  }

  private static int tell(BackVerses x, String text) {
    for (int i = 0; i < text.length(); i++) x.feed(text.charAt(i), 1);
    return x.chapel();
  }

  /** "FINDINGS are answers below -1000000000: .. (in longs, too)." */
  private static void findingsInLongs() {
    BackVerses x = new BackVerses();
    due("write of no sheet", x.write(4, 0, 0L), -1000000001L);
    due("write of a MISSING one", x.write(0, 0, 0L), -1000000006L);
    x.sheet(0, 64, 1);
    due("write of no number", x.write(0, 1, 0L), -1000000001L);
    // A number that looks like a finding is none.
    due("write", x.write(0, 0, -1000000001L), 0);
    due("write", x.write(0, 0, 0), -1000000001L);
    due("status(-1)", x.status(-1), 3);
  }

  /**
   * "NIGHT: 0 at first (99999 at most)", "STATE: NIGHT would be above 99999." No object gets there within its 512 calls,
   * and what it answers later is free: this looks at the rule in the class, not at a promise.
   */
  private static void lastNight() {
    BackVerses x = two(MEMBER, 0, MEMBER, 1);
    due("at first", x.now(0), 0);
    for (int i = 0; i < 1666; i++) due("60 NIGHTS", x.nights(60), 2);
    due("NIGHT", x.now(0), 99960);
    due("one too many", x.nights(40), STATE);
    due("far too many", x.nights(60), STATE);
    due("BEYOND before STATE", x.nights(61), BEYOND);
    due("NIGHT is as it was", x.now(0), 99960);
    due("just as many", x.nights(39), 2);
    due("NIGHT", x.now(0), 99999);
    due("one more", x.nights(1), STATE);
    due("BEYOND before STATE", x.nights(0), BEYOND);
    due("NIGHT is as it was", x.now(0), 99999);
    due("status(4)", x.status(4), 3);
    // AHEAD changes nothing, so no NIGHT is too late for it.
    due("AHEAD", x.on(0, 100, 0), 2);
  }

  /** "SEATS 0 to 11 in a row": nobody is in front of SEAT 11, not the one in SEAT 0 either. */
  private static void rowEndsInFront() {
    for (int kind = 0; kind < 6; kind++) {
      for (int seat = 10; seat < 12; seat++) {
        BackVerses x = two(kind, seat, STRANGER, 0);
        x.member(STRANGER, 1, 2);
        x.set(1, 3, 9);
        x.set(1, 4, 1023);
        due("kind " + kind + " feels round the end", x.of(0, 7), -1);
        due("kind " + kind + " READS round the end", x.of(0, 8), 0);
        x.nights(60);
        due("kind " + kind + " is told round the end", x.of(0, 4), 0);
      }
    }
    BackVerses x = two(ELDER, 9, MEMBER, 11);
    due("the last SEAT is felt", x.of(0, 7), 1);
    x = two(MEMBER, 10, STRANGER, 11);
    x.set(1, 4, 512);
    x.nights(1);
    due("the last SEAT tells", x.of(0, 4), 2 + 512);
  }

  /** Nobody is behind SEAT 0. */
  private static void rowEndsBehind() {
    BackVerses x = two(STRANGER, 0, MEMBER, 11);
    x.set(0, 4, 1023);
    x.nights(60);
    due("the one in SEAT 11", x.of(1, 4), 0);
    x = two(MEMBER, 0, STRANGER, 1);
    x.set(1, 4, 512);
    x.nights(1);
    due("the one in SEAT 0", x.of(0, 4), 2 + 512);
  }

  /** "the one in the SEAT just behind it": TELLING reaches no further, even if that SEAT is empty. */
  private static void justInFrontAndJustBehind() {
    BackVerses x = two(MEMBER, 3, STRANGER, 5);
    x.set(1, 4, 512);
    x.nights(60);
    due("two behind", x.of(0, 4), 0);
    x.move(1, 4);
    x.nights(1);
    due("just behind", x.of(0, 4), 512 + 2);
    x.move(1, 2);
    x.set(0, 4, 0);
    x.nights(60);
    due("just in front", x.of(0, 4), 0);
  }

  /** "it feels the nearest member in these": one only, though the farther one is plainer. */
  private static void nearestOfTwo() {
    BackVerses x = two(ELDER, 3, MEMBER, 4);
    x.member(MEMBER, 5, 2);
    x.set(1, 3, 2);
    x.set(2, 3, 9);
    due("whom", x.of(0, 7), 1);
    due("READS", x.of(0, 8), 0);
    x.nights(60);
    due("KNOWS", x.of(0, 4), 0);
    x.move(1, 0);
    due("whom", x.of(0, 7), 2);
    x.move(2, 6);
    due("three in front", x.of(0, 7), -1);
  }

  /** "DEEP (..; 5 at first), KNOWS (..; none at first), TIRED (..; 0 at first)", whatever the one was before an undo. */
  private static void firstValues() {
    BackVerses x = new BackVerses();
    x.image();
    for (int kind = 0; kind < 6; kind++) {
      x.member(kind, 11, 9);
      due("DEEP at first", x.of(0, 3), 5);
      due("KNOWS at first", x.of(0, 4), 0);
      due("TIRED at first", x.of(0, 5), 0);
      x.set(0, 3, 9);
      x.set(0, 4, 1023);
      x.set(0, 5, 99);
      due("nobody", x.undo(), 0);
    }
    due("by a text", tell(x, "boy 11 9"), 1);
    due("DEEP at first", x.of(0, 3), 5);
    due("KNOWS at first", x.of(0, 4), 0);
    due("TIRED at first", x.of(0, 5), 0);
  }

  private static int reads(int kind, int tired, int deep, int night) {
    BackVerses x = two(kind, 0, STRANGER, 1);
    if (night > 0) x.nights(night);
    x.set(0, 5, tired);
    x.set(1, 3, deep);
    return x.of(0, 8);
  }

  /** "MEMBER: if d is 5 or more. ELDER: if d is 3 or more. HERETIC: as ELDER." */
  private static void depthsOfReading() {
    for (int night = 0; night < 5; night++) {
      due("MEMBER, 4", reads(MEMBER, 0, 4, night), 0);
      due("MEMBER, 5", reads(MEMBER, 0, 5, night), 1);
      due("ELDER, 2", reads(ELDER, 0, 2, night), 0);
      due("ELDER, 3", reads(ELDER, 0, 3, night), 1);
      due("HERETIC, 2", reads(HERETIC, 0, 2, night), 0);
      due("HERETIC, 3", reads(HERETIC, 0, 3, night), 1);
      due("MEMBER, 1", reads(MEMBER, 0, 1, night), 0);
      due("ELDER, 1", reads(ELDER, 0, 1, night), 0);
      due("MEMBER, 9", reads(MEMBER, 0, 9, night), 1);
      due("ELDER, 9", reads(ELDER, 0, 9, night), 1);
    }
  }

  /** "BOY: if d and the rest of t by 4 together are 7 or more"; the rest goes round after 3. */
  private static void nightsOfBoys() {
    int[] least = {7, 6, 5, 4, 7, 6, 5, 4, 7};
    for (int kind : new int[] {BOY, CHOIRBOY}) {
      for (int night = 0; night < least.length; night++) {
        due("kind " + kind + " NIGHT " + night + " too shallow", reads(kind, 0, least[night] - 1, night), 0);
        due("kind " + kind + " NIGHT " + night + " deep enough", reads(kind, 0, least[night], night), 1);
      }
      for (int night = 0; night < 5; night++) due("DEEP 3 is never read", reads(kind, 0, 3, night), 0);
    }
  }

  /** "CHOIRBOY: as BOY, but always, if d is 9. (None with TIRED of 60 or more.)" */
  private static void nineIsAlwaysRead() {
    for (int night = 0; night < 5; night++) {
      due("CHOIRBOY, 9", reads(CHOIRBOY, 59, 9, night), 1);
      due("CHOIRBOY, 9, too tired", reads(CHOIRBOY, 60, 9, night), 0);
    }
  }

  /** "None with TIRED of 60 or more." */
  private static void tooTired() {
    for (int kind : new int[] {MEMBER, ELDER, BOY, HERETIC, CHOIRBOY}) {
      due("kind " + kind + " TIRED 0", reads(kind, 0, 9, 0), 1);
      due("kind " + kind + " TIRED 59", reads(kind, 59, 9, 0), 1);
      due("kind " + kind + " TIRED 60", reads(kind, 60, 9, 0), 0);
      due("kind " + kind + " TIRED 99", reads(kind, 99, 9, 0), 0);
      BackVerses x = two(kind, 0, STRANGER, 1);
      x.set(0, 5, 60);
      due("kind " + kind + " feels, too tired", x.of(0, 7), 1);
      x.set(1, 4, 4);
      x.nights(1);
      due("kind " + kind + " is told, too tired", x.of(0, 4), 4);
    }
    BackVerses x = two(MEMBER, 0, ELDER, 1);
    x.set(1, 4, 12);
    x.set(1, 5, 99);
    due("one that is too tired TELLS", x.of(1, 9), 4);
  }

  /** "CHOIRBOY: as BOY, and 1, if TIRED is below 10." */
  private static void livelyChoirboy() {
    BackVerses x = two(CHOIRBOY, 0, STRANGER, 2);
    int[][] feels = {{0, 2}, {9, 2}, {10, 1}, {11, 1}, {99, 1}};
    for (int[] each : feels) {
      x.set(0, 5, each[0]);
      due("FEELS with TIRED " + each[0], x.of(0, 6), each[1]);
      due("whom with TIRED " + each[0], x.of(0, 7), each[1] == 2 ? 1 : -1);
    }
    x.turn(0, BOY);
    x.set(0, 5, 0);
    due("a BOY FEELS", x.of(0, 6), 1);
  }

  /** "HERETIC: as ELDER, but the greatest one, if it KNOWS 4 or more." */
  private static void hereticOfFour() {
    BackVerses x = two(HERETIC, 0, MEMBER, 11);
    int[][] tells = {{0, 0}, {512, 512}, {513, 1}, {0x380, 0x80}, {0x3c0, 512}, {15, 8}, {7, 1}, {1023, 512}};
    for (int[] each : tells) {
      x.set(0, 4, each[0]);
      due("a HERETIC TELLS of " + each[0], x.of(0, 9), each[1]);
    }
    x.turn(0, ELDER);
    due("an ELDER TELLS of all", x.of(0, 9), 1);
  }

  /** "MEMBER: none. ELDER: the least one. BOY: all but the greatest one. STRANGER: all.", of none, one, all. */
  private static void toldOfFew() {
    int[][] tells = {
      {MEMBER, 0, 0, 0}, {ELDER, 0, 512, 1}, {BOY, 0, 0, 511}, {STRANGER, 0, 512, 1023}, {HERETIC, 0, 512, 512},
      {CHOIRBOY, 0, 0, 511}};
    int[] knows = {0, 512, 1023};
    for (int[] each : tells) {
      BackVerses x = two(each[0], 0, MEMBER, 11);
      for (int i = 0; i < 3; i++) {
        x.set(0, 4, knows[i]);
        due("kind " + each[0] + " TELLS of " + knows[i], x.of(0, 9), each[i + 1]);
      }
    }
  }

  /** "STRANGER: 0": it feels nobody, so it READS nobody, and it doesn't tire. */
  private static void strangersReadNobody() {
    BackVerses x = two(STRANGER, 0, MEMBER, 1);
    x.set(1, 3, 9);
    due("FEELS", x.of(0, 6), 0);
    due("whom", x.of(0, 7), -1);
    due("READS", x.of(0, 8), 0);
    x.nights(60);
    due("KNOWS", x.of(0, 4), 0);
    due("TIRED", x.of(0, 5), 0);
  }

  /** "TIRED is what it TIRES more (0 to 99 held)": a rest ends at 0. */
  private static void tiredHeldAtNought() {
    int[] rests = {5, 3, 10, 0, 0, 10};
    for (int kind = 0; kind < 6; kind++) {
      for (int tired = 0; tired <= 12; tired++) {
        BackVerses x = new BackVerses();
        x.member(kind, 0, 0);
        x.set(0, 5, tired);
        int then = tired < rests[kind] ? 0 : tired - rests[kind];
        due("kind " + kind + " AHEAD of TIRED " + tired, x.on(0, 1, 1), then);
        x.nights(1);
        due("kind " + kind + " after TIRED " + tired, x.of(0, 5), then);
      }
    }
  }

  /** At 99 a HERETIC and a STRANGER stay, since they don't rest. Nobody reads there, so nobody can go above. */
  private static void tiredStaysAtMost() {
    int[] then = {94, 96, 89, 99, 99, 89};
    for (int kind = 0; kind < 6; kind++) {
      BackVerses x = two(kind, 0, MEMBER, 1);
      x.set(1, 3, 9);
      x.set(0, 5, 99);
      due("kind " + kind + " a NIGHT after 99", x.on(0, 1, 1), then[kind]);
      due("kind " + kind + " 100 NIGHTS after 99, or less", x.on(0, 100, 1) <= 99 ? 1 : 0, 1);
    }
    BackVerses x = two(HERETIC, 0, MEMBER, 1);
    x.set(0, 5, 99);
    due("a HERETIC never rests", x.on(0, 100, 1), 99);
    due("a HERETIC never reads then", x.on(0, 100, 0), 0);
  }

  /** One reads with 59 at most, and so tires up to 67 at most by reading. */
  private static void tiredAtMostByReading() {
    int[] then = {62, 64, 65, 59, 67, 65};
    for (int kind = 0; kind < 6; kind++) {
      BackVerses x = two(kind, 0, MEMBER, 1);
      x.set(1, 3, 9);
      x.set(0, 5, 59);
      x.nights(1);
      due("kind " + kind + " a NIGHT after 59", x.of(0, 5), then[kind]);
    }
  }

  /** "Nobody comes to KNOW its own VERSE so, but a HERETIC": neither by READING nor by being told. */
  private static void ownVerse() {
    for (int kind = 0; kind < 6; kind++) {
      BackVerses x = two(kind, 0, MEMBER, 1);
      x.set(1, 3, 9);
      x.set(1, 2, 0);
      x.nights(8);
      due("kind " + kind + " by READING", x.of(0, 4), kind == HERETIC ? 1 : 0);
      x = two(kind, 0, STRANGER, 1);
      x.set(1, 3, 1);
      x.set(1, 4, 1023);
      x.nights(8);
      due("kind " + kind + " told", x.of(0, 4), kind == HERETIC ? 1023 : 1022);
      // One that KNOWS it otherwise keeps it.
      x.set(0, 4, 1);
      x.nights(1);
      due("kind " + kind + " kept", x.of(0, 4), 1023);
    }
    BackVerses x = two(MEMBER, 0, STRANGER, 1);
    due("by a text", tell(x, "knows 0 0"), 1);
    due("KNOWS", x.of(0, 4), 1);
  }

  /** "Then KNOWS is all that, too": what one KNOWS stays. */
  private static void knowsNeverLess() {
    BackVerses x = two(MEMBER, 0, MEMBER, 1);
    x.set(0, 4, 512);
    x.nights(60);
    due("KNOWS", x.of(0, 4), 512 + 2);
    x.set(0, 4, 1023);
    x.nights(60);
    due("KNOWS all", x.of(0, 4), 1023);
  }

  /** "by all as the NIGHT begins": what one gets in a NIGHT it does not TELL in the same. */
  private static void asTheNightBegins() {
    for (int turned = 0; turned < 2; turned++) {
      BackVerses x = new BackVerses();
      for (int m = 0; m < 3; m++) x.member(m == 0 ? MEMBER : ELDER, turned == 0 ? m : 2 - m, 0);
      if (turned == 1) {
        x.turn(0, ELDER);
        x.turn(2, MEMBER);
      }
      int first = x.seat(0);
      int middle = x.seat(1);
      int last = x.seat(2);
      x.set(last, 4, 512);
      x.nights(1);
      due("the middle one", x.of(middle, 4), 512);
      due("the first one", x.of(first, 4), 0);
      x.nights(1);
      due("the first one, later", x.of(first, 4), 512);
    }
    // A CHOIRBOY of TIRED 9 feels far in this NIGHT, though it is above 9 when it ends.
    BackVerses x = two(CHOIRBOY, 0, STRANGER, 2);
    x.set(1, 3, 9);
    x.set(0, 5, 9);
    x.nights(1);
    due("KNOWS", x.of(0, 4), 2);
    due("TIRED", x.of(0, 5), 15);
    due("FEELS", x.of(0, 6), 1);
    // A BOY reads by the NIGHT as it begins: DEEP 4 in NIGHT 3, not in NIGHT 2.
    x = two(BOY, 0, STRANGER, 1);
    x.set(1, 3, 4);
    due("three NIGHTS", x.nights(3), 0);
    due("the fourth", x.nights(1), 2);
  }

  /** "GAP: an empty SEAT with somebody in front and somebody behind it, however far." */
  private static void gaps() {
    BackVerses x = new BackVerses();
    due("nobody", x.now(1), 0);
    x.member(MEMBER, 0, 0);
    due("one in SEAT 0", x.now(1), 0);
    x.move(0, 11);
    due("one in SEAT 11", x.now(1), 0);
    x.member(MEMBER, 10, 0);
    due("two side by side", x.now(1), 0);
    x.move(1, 9);
    due("the least GAP", x.now(1), 1 << 10);
    x.move(1, 0);
    due("the greatest GAP", x.now(1), 2046);
    x.move(0, 2);
    due("SEAT 1", x.now(1), 2);
    for (int m = 2; m < 10; m++) x.member(MEMBER, m == 2 ? 1 : m, 0);
    due("ten side by side", x.now(1), 0);
    x.move(1, 11);
    due("empty in front of SEAT 9 and behind SEAT 1", x.now(1), 1 << 10);
    x.move(x.seat(1), 10);
    due("empty behind all", x.now(1), 0);
  }

  /** "NUMBERS (digits, 999 at most)": every ITEM asks for less, so 999 and 1000 are the same FAULT. */
  private static void numbersOfTheText() {
    String[] numbers = {"12", "99", "100", "999", "1000", "2147483647", "2147483648", "4294967296", "4294967297",
      "18446744073709551616"};
    for (String number : numbers) {
      due("boy " + number, tell(new BackVerses(), "boy " + number + " 0"), -1 - 4);
      due("boy 0 " + number, tell(new BackVerses(), "boy 0 " + number), -1 - 6);
      due("deep " + number, tell(new BackVerses(), "boy 0 0 deep " + number), -1 - 13);
      due("knows " + number, tell(two(BOY, 0, BOY, 1), "knows " + number + " 0"), -1 - 6);
      due("knows 0 " + number, tell(two(BOY, 0, BOY, 1), "knows 0 " + number), -1 - 8);
      due("move " + number, tell(two(BOY, 0, BOY, 1), "move " + number + " 2"), -1 - 5);
      due("move 0 " + number, tell(two(BOY, 0, BOY, 1), "move 0 " + number), -1 - 7);
    }
  }

  /** "SHEETS 0 to 3 are rows of at most 40 numbers of 8, 16 or 64 bits": each holds all of its own. */
  private static void sheetsAreFour() {
    BackVerses x = new BackVerses();
    for (int s = 0; s < 4; s++) due("sheet " + s, x.sheet(s, s == 0 ? 8 : s == 1 ? 16 : 64, 40), 40);
    for (int s = 0; s < 4; s++) for (int i = 0; i < 40; i++) due("at first", x.write(s, i, s * 10 + i), 0);
    for (int s = 0; s < 4; s++) for (int i = 0; i < 40; i++) due("then", x.write(s, i, 0), s * 10 + i);
    for (int s = 0; s < 4; s++) due("number 40 of sheet " + s, x.write(s, 40, 0), BEYOND);
    due("no FULL", x.status(BEYOND - FULL), 0);
  }
}
