import java.lang.reflect.Method;
import java.util.ArrayList;
import java.util.HashMap;
import java.util.List;
import java.util.Map;
import java.util.TreeMap;
import java.util.TreeSet;
import java.util.regex.Matcher;
import java.util.regex.Pattern;

// Promises 1 to 35 in mixed runs of at most 512 calls: a second telling of the whole document, from its first line,
// gets the same calls, and every answer must be the same. At the end it is looked up that the runs were no idle ones:
// each call must have answered both well and with each of the findings that it has.
public final class TwinTest {
  private static final int BEYOND = -1000000001;
  private static final int FULL = -1000000002;
  private static final int KIND = -1000000003;
  private static final int NONE = -1000000004;
  private static final int STATE = -1000000005;
  private static final int MISSING = -1000000006;
  private static final int SIZE = -1000000007;
  private static final int RUNS = 1500;
  private static final int CALLS = 512;

  private static int wrong = 0;
  private static long seed = 19L;
  private static final Map<String, Method> METHODS = new HashMap<>();
  private static final Map<String, TreeSet<Long>> REACHED = new TreeMap<>();

  public static void main(String[] args) throws Exception {
    for (Method method : BackVerses.class.getMethods()) {
      if (method.getDeclaringClass() == BackVerses.class) METHODS.put(method.getName(), method);
    }
    for (int run = 0; run < RUNS && wrong < 20; run++) new Run(run).go();
    reached();
    System.out.println(wrong == 0 ? "all answers are as due" : wrong + " answers are not as due");
    if (wrong != 0) System.exit(1);
  }

  // ---- what the runs came to

  /** Each call with the findings that a run can get from it; nights() can't get to STATE. */
  private static void reached() {
    String[] expected = {
      "seat 1", "now 1", "verse 1 4", "member 1 2 5", "of 1", "set 1", "move 1 5", "turn 1", "as 1 3", "nights 1",
      "on 1", "learns 1 4", "spreads 1 4", "heresy 4", "best 1", "kind 1", "deep 1 4", "shift 1 4", "bears 1 4",
      "wisest 1 4", "feed 1 2", "wipe", "chapel", "sheet 1 7", "write 1 6", "copy 1 3 6", "lays 1 6", "book 1 6",
      "read 1 6", "image", "undo 4", "tear", "count 1", "status 1"};
    for (String each : expected) {
      String[] parts = each.split(" ");
      TreeSet<Long> want = new TreeSet<>();
      want.add(0L);
      for (int i = 1; i < parts.length; i++) want.add(-1000000000L - Long.parseLong(parts[i]));
      if (!want.equals(REACHED.get(parts[0]))) {
        wrong++;
        System.out.println("the runs reached " + REACHED.get(parts[0]) + " of " + parts[0] + ", due is " + want);
      }
    }
  }

  // ---- numbers for the calls

  private static int upTo(int n) {
    seed = seed * 6364136223846793005L + 1442695040888963407L;
    return (int) ((seed >>> 33) % (n + 1));
  }

  private static boolean oneIn(int n) {
    return upTo(n - 1) == 0;
  }

  /** Mostly one that may be; now and then an edge, or one beyond. */
  private static int of(int least, int most) {
    if (oneIn(20)) {
      int[] edges = {least, most, least - 1, most + 1, Integer.MIN_VALUE, Integer.MAX_VALUE};
      return edges[upTo(edges.length - 1)];
    }
    return most < least ? least : least + upTo(most - least);
  }

  // ---- one run

  private static final class Run {
    private final int number;
    private final BackVerses x = new BackVerses();
    private final Twin twin = new Twin();
    private final List<String> trace = new ArrayList<>();
    private int calls = 0;
    /** Some runs have hardly any nights, some hardly any member, so that edges at either side are met. */
    private final int crowd = upTo(10);

    Run(int number) {
      this.number = number;
    }

    void go() throws Exception {
      int most = 40 + upTo(CALLS - 140);
      boolean empty = oneIn(4);
      for (int i = 0; i < crowd && !empty; i++) call("member", of(0, 5), emptySeat(), of(0, 9));
      while (calls < most && wrong < 20) next();
      tellAll();
    }

    private void call(String name, long... args) throws Exception {
      if (calls >= CALLS) return;
      calls++;
      Method method = METHODS.get(name);
      Object[] with = new Object[args.length];
      for (int i = 0; i < args.length; i++) {
        with[i] = method.getParameterTypes()[i] == long.class ? (Object) args[i] : (Object) (int) args[i];
      }
      long got = ((Number) method.invoke(x, with)).longValue();
      int before = twin.allFound();
      long want = twin.answer(name, args);
      boolean found = twin.allFound() > before;
      REACHED.computeIfAbsent(name, n -> new TreeSet<>()).add(found ? want : 0L);
      StringBuilder told = new StringBuilder(name).append('(');
      for (int i = 0; i < args.length; i++) told.append(i == 0 ? "" : ", ").append(args[i]);
      trace.add(told.append(") = ").append(got).toString());
      if (got != want) {
        wrong++;
        System.out.println("run " + number + ", call " + calls + ": " + told + ", due is " + want);
        if (wrong == 1) System.out.println("  all calls: " + String.join("; ", trace));
      }
    }

    private int member() {
      return of(0, twin.all.size() - 1);
    }

    /** Mostly an empty one, and mostly beside somebody, since those far from all learn nothing. */
    private int emptySeat() {
      int seat = of(0, 11);
      for (int i = 0; i < 12 && !oneIn(30); i++) {
        boolean beside = twin.all.isEmpty() || twin.now().at(seat - 1) != null || twin.now().at(seat + 1) != null;
        if (twin.now().at(seat) == null && (beside || oneIn(4))) return seat;
        seat = upTo(11);
      }
      return seat;
    }

    private void next() throws Exception {
      int pick = upTo(39);
      if (pick < 3) chapelCall();
      else if (pick < 14) memberCall();
      else if (pick < 20) nightCall();
      else if (pick < 27) bestCall();
      else if (pick < 28) textCall();
      else if (pick < 36) sheetCall();
      else imageCall();
    }

    private void chapelCall() throws Exception {
      switch (upTo(2)) {
        case 0: call("seat", of(0, 11)); break;
        case 1: call("now", of(0, 5)); break;
        default: call("verse", of(0, twin.all.size()));
      }
    }

    private void memberCall() throws Exception {
      switch (upTo(9)) {
        case 0:
          if (twin.all.size() < crowd || oneIn(6)) call("member", of(0, 5), emptySeat(), of(0, 9));
          break;
        case 1: case 2: call("of", member(), of(0, 9)); break;
        case 3: call("set", member(), 2, of(0, 9)); break;
        case 4: call("set", member(), 3, of(1, 9)); break;
        case 5: call("set", member(), oneIn(8) ? of(2, 5) : 4, known()); break;
        case 6: call("set", member(), 5, of(0, 99)); break;
        case 7: call("move", member(), oneIn(3) ? of(0, 11) : emptySeat()); break;
        case 8: call("turn", member(), of(0, 5)); break;
        default: call("as", member(), of(0, 5));
      }
    }

    /** Mostly few: those that know all learn nothing. */
    private int known() {
      int some = of(0, 1023);
      return oneIn(4) ? some : oneIn(2) ? 0 : some & upTo(1023) & upTo(1023);
    }

    private void nightCall() throws Exception {
      switch (upTo(4)) {
        case 0: call("nights", oneIn(8) ? of(1, 60) : of(1, 3)); break;
        case 1: call("on", member(), oneIn(2) ? of(0, 100) : of(0, 5), of(0, 1)); break;
        case 2: call("learns", member(), of(0, 9)); break;
        case 3: call("spreads", of(0, 9)); break;
        default: call("heresy");
      }
    }

    private void bestCall() throws Exception {
      int near = oneIn(2) ? of(1, 40) : of(1, 4);
      switch (upTo(5)) {
        case 0: call("best", member(), near); break;
        case 1: call("kind", member(), near); break;
        case 2: call("deep", member(), member(), oneIn(4) ? of(0, 40) : near); break;
        case 3: call("shift", near); break;
        case 4: call("bears", member(), oneIn(4) ? of(0, 40) : near, oneIn(2) ? of(0, 10) : of(0, 4)); break;
        default: call("wisest", of(0, 100));
      }
    }

    private void sheetCall() throws Exception {
      int s = of(0, 3);
      int many = twin.sizeOf(s);
      switch (upTo(6)) {
        case 0: call("sheet", s, oneIn(15) ? of(0, 64) : new int[] {0, 8, 16, 16, 64, 64}[upTo(5)], of(0, 40)); break;
        case 1: case 2: call("write", s, of(0, many - 1), number()); break;
        case 3: copyCall(s, of(0, 3)); break;
        case 4: call("lays", s); break;
        case 5: call("book", s, member()); break;
        default: call("read", s, member(), member());
      }
    }

    private void copyCall(int s, int t) throws Exception {
      int most = Math.min(twin.sizeOf(s), twin.sizeOf(t));
      int n = of(0, Math.max(0, most));
      call("copy", s, of(0, Math.max(0, twin.sizeOf(s) - n)), t, of(0, Math.max(0, twin.sizeOf(t) - n)), n);
    }

    private long number() {
      if (oneIn(3)) return ((long) of(0, 1) << 32) + of(-300, 70000);
      return of(0, 1023);
    }

    private void imageCall() throws Exception {
      switch (upTo(5)) {
        case 0: call("image"); break;
        case 1: call("undo"); break;
        case 2: if (oneIn(3)) call("tear"); break;
        case 3: call("count", of(0, 3)); break;
        case 4: call("status", of(-1, 6)); break;
        default: if (oneIn(3)) call("wipe");
      }
    }

    private void textCall() throws Exception {
      if (oneIn(6)) {
        call("feed", upTo(Integer.MAX_VALUE - 1) * 2 + 1, of(1, 4));
        return;
      }
      if (oneIn(25)) {
        for (int i = 0; i < 31; i++) call("feed", 0x20203020, 4);
      }
      if (twin.tape.length() > 0 && !oneIn(4)) call("wipe");
      String text = text();
      for (int at = 0; at < text.length();) {
        int n = Math.min(oneIn(2) ? 4 : 1 + upTo(3), text.length() - at);
        int bytes = upTo(255);
        for (int i = 0; i < n; i++) bytes = bytes << 8 | text.charAt(at + i);
        call("feed", bytes, n);
        at += n;
      }
      if (!oneIn(10)) call("chapel");
    }

    private String text() {
      StringBuilder text = new StringBuilder();
      int items = 1 + upTo(3);
      int there = twin.all.size();
      for (int i = 0; i < items; i++) {
        if (i > 0) text.append(oneIn(3) ? " ; " : ";");
        int pick = upTo(4);
        if (pick < 3) {
          text.append(Twin.NAMES.get(upTo(5))).append(' ').append(Math.abs(emptySeat())).append(' ').append(upTo(9));
          if (oneIn(3)) text.append(oneIn(2) ? " deep " : "deep").append(1 + upTo(8));
          there++;
        } else {
          text.append(pick == 3 ? "knows" : "move").append(oneIn(3) ? "" : " ").append(upTo(Math.max(0, there - 1)));
          text.append(' ').append(oneIn(5) ? "0" : "").append(pick == 3 ? upTo(9) : Math.abs(emptySeat()));
        }
      }
      for (int i = 0; i < 2; i++) if (oneIn(5)) spoil(text);
      return text.length() > 100 ? text.substring(0, 100) : text.toString();
    }

    private void spoil(StringBuilder text) {
      String others = "  ;;09159amze!A{`/:";
      int at = upTo(text.length());
      char other = oneIn(6) ? (char) upTo(255) : others.charAt(upTo(others.length() - 1));
      if (at == text.length() || oneIn(3)) text.insert(at, other);
      else if (oneIn(2)) text.setCharAt(at, other);
      else text.deleteCharAt(at);
    }

    private void tellAll() throws Exception {
      for (int which = -1; which < 7; which++) call("status", which);
      for (int what = 0; what < 6; what++) call("now", what);
      for (int m = 0; m < twin.all.size(); m++) for (int what = 0; what < 6; what++) call("of", m, what);
      for (int what = 0; what < 4; what++) call("count", what);
      for (int s = 0; s < 4; s++) call("write", s, Math.max(0, twin.sizeOf(s) - 1), 0);
      call("chapel");
      call("undo");
      for (int seat = 0; seat < 12; seat++) call("seat", seat);
    }
  }

  // ---- the second telling

  private static final class Finding extends RuntimeException {
    private static final long serialVersionUID = 1L;
    final int code;

    Finding(int code) {
      super(null, null, false, false);
      this.code = code;
    }
  }

  private static void ask(boolean holds, int code) {
    if (!holds) throw new Finding(code);
  }

  private static boolean in(long v, long least, long most) {
    return least <= v && v <= most;
  }

  private record One(int kind, int seat, int verse, int deep, int knows, int tired) {
    One seated(int s) { return new One(kind, s, verse, deep, knows, tired); }
    One ofKind(int k) { return new One(k, seat, verse, deep, knows, tired); }
    One with(int what, int v) {
      return new One(kind, seat, what == 2 ? v : verse, what == 3 ? v : deep, what == 4 ? v : knows,
          what == 5 ? v : tired);
    }
    int value(int what) {
      return new int[] {kind, seat, verse, deep, knows, tired}[what];
    }
    boolean has(int v) { return (knows & 1 << v) != 0; }
    int many() { return Integer.bitCount(knows); }

    int feels() {
      int[] feels = {1, 1 + 1, 1, 0, 1 + 1, tired < 10 ? 1 + 1 : 1};
      return feels[kind];
    }

    boolean reads(int d, int t) {
      boolean asBoy = d + t % 4 >= 7;
      boolean[] reads = {d >= 5, d >= 3, asBoy, true, d >= 3, d == 9 || asBoy};
      return reads[kind] && tired < 60;
    }

    int tells() {
      int least = Integer.lowestOneBit(knows);
      int greatest = Integer.highestOneBit(knows);
      int[] tells = {0, least, knows - greatest, knows, many() >= 4 ? greatest : least, knows - greatest};
      return tells[kind];
    }

    int tires(boolean reads) {
      int asMember = -5 + (reads ? 8 : 0);
      int asElder = asMember + 2;
      int[] tires = {asMember, asElder, asMember * 2, 0, asElder + 3, asMember * 2};
      return tires[kind];
    }
  }

  /** A chapel by itself: never changed, always made anew. */
  private record Book(int night, List<One> all) {
    One at(int seat) {
      for (One one : all) if (one.seat() == seat) return one;
      return null;
    }

    One felt(One one) {
      for (int seat = one.seat() + 1; seat <= one.seat() + one.feels(); seat++) if (at(seat) != null) return at(seat);
      return null;
    }

    boolean reads(One one) {
      One felt = felt(one);
      return felt != null && one.reads(felt.deep(), night);
    }

    Book ahead(int n) {
      Book book = this;
      for (int i = 0; i < n; i++) {
        List<One> next = new ArrayList<>();
        for (One one : book.all) next.add(book.after(one));
        book = new Book(book.night + 1, next);
      }
      return book;
    }

    private One after(One one) {
      boolean reads = reads(one);
      int gets = reads ? 1 << felt(one).verse() : 0;
      One front = at(one.seat() + 1);
      if (front != null) gets |= front.tells();
      if (one.kind() != 4) gets &= 1023 - (1 << one.verse());
      int tired = one.tired() + one.tires(reads);
      return one.with(4, one.knows() | gets).with(5, tired < 0 ? 0 : tired > 99 ? 99 : tired);
    }

    Book with(int m, One one) {
      List<One> next = new ArrayList<>(all);
      next.set(m, one);
      return new Book(night, next);
    }
  }

  private static final class Twin {
    static final List<String> NAMES = List.of("member", "elder", "boy", "stranger", "heretic", "choirboy");
    private static final int[] ABOVE = {0, 0, 0, 0, 1, 2};
    private static final Pattern TOKEN = Pattern.compile("[a-z]+|[0-9]+|;");

    private int night = 0;
    List<One> all = new ArrayList<>();
    private Book kept = null;
    final StringBuilder tape = new StringBuilder();
    private final long[][] sheets = new long[4][];
    private final int[] bits = new int[4];
    private final int[] found = new int[7];

    int allFound() {
      int sum = 0;
      for (int each : found) sum += each;
      return sum;
    }

    int sizeOf(int s) {
      return in(s, 0, 3) && sheets[s] != null ? sheets[s].length : 0;
    }

    long answer(String name, long[] a) {
      try {
        int[] i = new int[a.length];
        for (int k = 0; k < a.length; k++) i[k] = (int) a[k];
        return name.equals("write") ? writes(i[0], i[1], a[2]) : answerTo(name, i);
      } catch (Finding finding) {
        found[BEYOND - finding.code]++;
        return finding.code;
      }
    }

    private long answerTo(String name, int[] a) {
      switch (name) {
        case "seat": ask(in(a[0], 0, 11), BEYOND); return all.indexOf(now().at(a[0]));
        case "now": return tellsNow(a[0]);
        case "verse": return nth(a[0]);
        case "member": return joins(a[0], a[1], a[2]);
        case "of": return tells(a[0], a[1]);
        case "set": return sets(a[0], a[1], a[2]);
        case "move": return moves(a[0], a[1]);
        case "turn": return turns(a[0], a[1]);
        case "as": return isAs(a[0], a[1]);
        case "nights": return goes(a[0]);
        case "on": return laterOn(a[0], a[1], a[2]);
        case "learns": return learnt(a[0], a[1]);
        case "spreads": return spread(a[0]);
        case "heresy": return heretical();
        case "best": return bestSeat(a[0], a[1]);
        case "kind": return bestKind(a[0], a[1]);
        case "deep": return leastDeep(a[0], a[1], a[2]);
        case "shift": return shifted(a[0]);
        case "bears": return borne(a[0], a[1], a[2]);
        case "wisest": return wise(a[0]);
        case "feed": return fed(a[0], a[1]);
        case "wipe": return wiped();
        case "chapel": return textRead();
        default: return answerOfSheets(name, a);
      }
    }

    private long answerOfSheets(String name, int[] a) {
      switch (name) {
        case "sheet": return laid(a[0], a[1], a[2]);
        case "copy": return copied(a[0], a[1], a[2], a[3], a[4]);
        case "lays": return laysDown(a[0]);
        case "book": return booked(a[0], a[1]);
        case "read": return pairs(a[0], a[1], a[2]);
        case "image": kept = now(); return 1;
        case "undo": ask(kept != null, NONE); become(kept); return all.size();
        case "tear": int was = kept == null ? 0 : 1; kept = null; return was;
        case "count": return counted(a[0]);
        case "status": ask(in(a[0], -1, 6), BEYOND); return a[0] == -1 ? allFound() : found[a[0]];
        default: throw new IllegalStateException(name);
      }
    }

    private Book now() {
      return new Book(night, new ArrayList<>(all));
    }

    private void become(Book book) {
      night = book.night();
      all = new ArrayList<>(book.all());
    }

    private void askMember(int m) {
      ask(in(m, 0, all.size() - 1), BEYOND);
    }

    private static int known(Book book) {
      int set = 0;
      for (One one : book.all()) set |= one.knows();
      return set;
    }

    private static int together(Book book) {
      int sum = 0;
      for (One one : book.all()) sum += one.many();
      return sum;
    }

    private long tellsNow(int what) {
      ask(in(what, 0, 5), BEYOND);
      int gaps = 0;
      for (int seat = 0; seat < 12; seat++) {
        boolean behind = false;
        boolean front = false;
        for (One one : all) {
          behind |= one.seat() < seat;
          front |= one.seat() > seat;
        }
        if (behind && front && now().at(seat) == null) gaps |= 1 << seat;
      }
      int verses = 0;
      int tired = 0;
      for (One one : all) {
        verses |= 1 << one.verse();
        tired += one.tired();
      }
      return new int[] {night, gaps, verses, known(now()), together(now()), tired}[what];
    }

    private long nth(int n) {
      ask(n >= 0, BEYOND);
      List<One> sorted = new ArrayList<>(all);
      sorted.sort((p, q) -> p.seat() - q.seat());
      ask(n < sorted.size(), NONE);
      return sorted.get(n).verse();
    }

    private long joins(int kind, int seat, int verse) {
      ask(in(kind, 0, 5) && in(seat, 0, 11) && in(verse, 0, 9), BEYOND);
      ask(all.size() < 10, FULL);
      ask(now().at(seat) == null, STATE);
      all.add(new One(kind, seat, verse, 5, 0, 0));
      return all.size() - 1;
    }

    private long tells(int m, int what) {
      askMember(m);
      ask(in(what, 0, 9), BEYOND);
      One one = all.get(m);
      if (what < 6) return one.value(what);
      One felt = now().felt(one);
      return new int[] {one.feels(), all.indexOf(felt), now().reads(one) ? 1 : 0, one.tells()}[what - 6];
    }

    private long sets(int m, int what, int v) {
      askMember(m);
      ask(in(what, 2, 5), BEYOND);
      int[][] limits = {{0, 9}, {1, 9}, {0, 1023}, {0, 99}};
      ask(in(v, limits[what - 2][0], limits[what - 2][1]), BEYOND);
      return all.set(m, all.get(m).with(what, v)).value(what);
    }

    private long moves(int m, int seat) {
      askMember(m);
      ask(in(seat, 0, 11), BEYOND);
      One there = now().at(seat);
      ask(there == null || there == all.get(m), STATE);
      return all.set(m, all.get(m).seated(seat)).seat();
    }

    private long turns(int m, int kind) {
      askMember(m);
      ask(in(kind, 0, 5), BEYOND);
      return all.set(m, all.get(m).ofKind(kind)).kind();
    }

    private long isAs(int m, int kind) {
      askMember(m);
      ask(in(kind, 0, 5), BEYOND);
      int own = all.get(m).kind();
      ask(own == kind || ABOVE[own] == kind || ABOVE[ABOVE[own]] == kind, KIND);
      return all.get(m).knows();
    }

    private long goes(int n) {
      ask(in(n, 1, 60), BEYOND);
      ask(night + n <= 99999, STATE);
      become(now().ahead(n));
      return known(now());
    }

    private long laterOn(int m, int n, int what) {
      askMember(m);
      ask(in(n, 0, 100) && in(what, 0, 1), BEYOND);
      return now().ahead(n).all().get(m).value(4 + what);
    }

    private long learnt(int m, int verse) {
      askMember(m);
      ask(in(verse, 0, 9), BEYOND);
      Book book = now();
      for (int n = 0; n <= 100; n++, book = book.ahead(1)) if (book.all().get(m).has(verse)) return n;
      throw new Finding(NONE);
    }

    private long spread(int verse) {
      ask(in(verse, 0, 9), BEYOND);
      Book book = now();
      for (int n = 0; n <= 100; n++, book = book.ahead(1)) {
        boolean spread = true;
        for (One one : book.all()) spread &= one.has(verse) || one.kind() == 3 || one.verse() == verse;
        if (spread) return n;
      }
      throw new Finding(NONE);
    }

    private long heretical() {
      Book book = now();
      for (int n = 0; n <= 100; n++, book = book.ahead(1)) {
        for (One one : book.all()) if (one.has(one.verse())) return n;
      }
      throw new Finding(NONE);
    }

    /** The place of the first of the greatest; -1 stands for one that may not be. */
    private static int first(int[] many) {
      int best = 0;
      for (int i = 1; i < many.length; i++) if (many[i] > many[best]) best = i;
      return best;
    }

    private long bestSeat(int m, int n) {
      askMember(m);
      ask(in(n, 1, 40), BEYOND);
      int[] many = new int[12];
      for (int seat = 0; seat < 12; seat++) {
        One there = now().at(seat);
        boolean free = there == null || there == all.get(m);
        many[seat] = free ? now().with(m, all.get(m).seated(seat)).ahead(n).all().get(m).many() : -1;
      }
      return first(many);
    }

    private long bestKind(int m, int n) {
      askMember(m);
      ask(in(n, 1, 40), BEYOND);
      int[] many = new int[6];
      for (int k = 0; k < 6; k++) many[k] = now().with(m, all.get(m).ofKind(k)).ahead(n).all().get(m).many();
      return first(many);
    }

    private long leastDeep(int m, int other, int n) {
      askMember(m);
      askMember(other);
      ask(m != other && in(n, 0, 40), BEYOND);
      for (int d = 1; d <= 9; d++) {
        if (now().with(m, all.get(m).with(3, d)).ahead(n).all().get(other).has(all.get(m).verse())) return d;
      }
      throw new Finding(NONE);
    }

    private long shifted(int n) {
      ask(in(n, 1, 40), BEYOND);
      ask(!all.isEmpty() && all.size() < 12, NONE);
      int seat = 0;
      while (now().at(seat) != null) seat++;
      int[] many = new int[all.size()];
      for (int m = 0; m < many.length; m++) many[m] = together(now().with(m, all.get(m).seated(seat)).ahead(n));
      return first(many);
    }

    private long borne(int m, int n, int v) {
      askMember(m);
      ask(in(n, 0, 40) && in(v, 0, 10), BEYOND);
      int tired = 99;
      while (tired >= 0 && now().with(m, all.get(m).with(5, tired)).ahead(n).all().get(m).many() < v) tired--;
      ask(tired >= 0, NONE);
      return tired;
    }

    private long wise(int n) {
      ask(in(n, 0, 100), BEYOND);
      ask(!all.isEmpty(), NONE);
      int[] many = new int[all.size()];
      for (int m = 0; m < many.length; m++) many[m] = now().ahead(n).all().get(m).many();
      return first(many);
    }

    // ---- the text

    private long fed(int bytes, int n) {
      ask(in(n, 1, 4), BEYOND);
      ask(tape.length() + n <= 120, FULL);
      String four = new String(new char[] {(char) (bytes >>> 24), (char) (bytes >> 16 & 255), (char) (bytes >> 8 & 255),
        (char) (bytes & 255)});
      tape.append(four.substring(4 - n));
      return tape.length();
    }

    private long wiped() {
      int had = tape.length();
      tape.setLength(0);
      return had;
    }

    private String text = "";
    private int at = 0;
    private Book told = null;

    private static final class Fault extends RuntimeException {
      private static final long serialVersionUID = 1L;
      final int place;

      Fault(int place) {
        super(null, null, false, false);
        this.place = place;
      }
    }

    private long textRead() {
      text = tape.toString();
      tape.setLength(0);
      at = 0;
      told = now();
      try {
        int items = 0;
        do {
          item();
          items++;
        } while (more());
        become(told);
        return items;
      } catch (Fault fault) {
        return -1 - fault.place;
      }
    }

    /** The TOKEN that comes, or an empty text at the end or where none begins; the place is then its first byte's. */
    private String token() {
      while (at < text.length() && text.charAt(at) == ' ') at++;
      Matcher matcher = TOKEN.matcher(text).region(at, text.length());
      return matcher.lookingAt() ? matcher.group() : "";
    }

    private void fits(boolean may, String token) {
      if (!may) throw new Fault(at);
      at += token.length();
    }

    private boolean more() {
      String token = token();
      if (at == text.length()) return false;
      fits(token.equals(";"), token);
      return true;
    }

    private int numeral(int least, int most, boolean emptySeat) {
      String token = token();
      boolean digits = token.matches("[0-9]+");
      String plain = token.replaceFirst("^0+(?=.)", "");
      boolean may = digits && plain.length() <= 3 && in(Integer.parseInt(plain), least, most);
      fits(may && (!emptySeat || told.at(Integer.parseInt(plain)) == null), token);
      return Integer.parseInt(plain);
    }

    private void item() {
      String word = token();
      int kind = NAMES.indexOf(word);
      int there = told.all().size();
      fits(kind >= 0 ? there < 10 : word.equals("knows") || word.equals("move"), word);
      if (kind >= 0) {
        int seat = numeral(0, 11, true);
        int verse = numeral(0, 9, false);
        int deep = 5;
        if (token().equals("deep")) {
          at += 4;
          deep = numeral(1, 9, false);
        }
        List<One> next = new ArrayList<>(told.all());
        next.add(new One(kind, seat, verse, deep, 0, 0));
        told = new Book(night, next);
        return;
      }
      int m = numeral(0, there - 1, false);
      One one = told.all().get(m);
      One then = word.equals("knows") ? one.with(4, one.knows() | 1 << numeral(0, 9, false))
          : one.seated(numeral(0, 11, true));
      told = told.with(m, then);
    }

    // ---- sheets

    private void askSheet(int s) {
      ask(in(s, 0, 3), BEYOND);
      ask(sheets[s] != null, MISSING);
    }

    /** Numbers have a sign, those of 8 and 16 bits, too. */
    private long cut(int s, long v) {
      return v << 64 - bits[s] >> 64 - bits[s];
    }

    private long laid(int s, int b, int n) {
      ask(in(s, 0, 3) && List.of(0, 8, 16, 64).contains(b), BEYOND);
      ask(n >= 0, SIZE);
      ask(n <= 40, BEYOND);
      bits[s] = b;
      sheets[s] = b == 0 ? null : new long[n];
      return b == 0 ? 0 : n;
    }

    private long writes(int s, int i, long v) {
      askSheet(s);
      ask(in(i, 0, sheets[s].length - 1), BEYOND);
      long was = sheets[s][i];
      sheets[s][i] = cut(s, v);
      return was;
    }

    private long copied(int s, int from, int t, int to, int n) {
      ask(in(s, 0, 3) && in(t, 0, 3), BEYOND);
      ask(sheets[s] != null && sheets[t] != null, MISSING);
      ask(bits[s] == bits[t], KIND);
      ask(from >= 0 && to >= 0 && n >= 0, BEYOND);
      ask((long) from + n <= sheets[s].length && (long) to + n <= sheets[t].length, BEYOND);
      long[] were = sheets[s].clone();
      for (int i = 0; i < n; i++) sheets[t][to + i] = were[from + i];
      return n;
    }

    private long laysDown(int s) {
      askSheet(s);
      int came = 0;
      for (int i = 0; i < sheets[s].length; i++) {
        if (i >= all.size() || !in(sheets[s][i], 0, 1023)) continue;
        all.set(i, all.get(i).with(4, (int) sheets[s][i]));
        came++;
      }
      return came;
    }

    private long booked(int s, int m) {
      askSheet(s);
      askMember(m);
      for (int i = 0; i < sheets[s].length; i++) sheets[s][i] = cut(s, now().ahead(i).all().get(m).knows());
      return sheets[s].length;
    }

    private long pairs(int s, int m, int other) {
      askSheet(s);
      askMember(m);
      askMember(other);
      ask(m != other, BEYOND);
      int pairs = 0;
      for (int pair = 0; pair < 36; pair++) {
        Book book = now().with(m, all.get(m).ofKind(pair % 6)).with(other, all.get(other).ofKind(pair / 6));
        boolean so = true;
        for (int i = 0; i < sheets[s].length && so; i++, book = book.ahead(1)) {
          so = book.all().get(m).knows() == sheets[s][i];
        }
        if (so) pairs++;
      }
      return pairs;
    }

    private long counted(int what) {
      ask(in(what, 0, 3), BEYOND);
      int deep = 0;
      for (One one : all) deep += one.deep();
      return new int[] {all.size(), tape.length(), deep, 12 - all.size()}[what];
    }
  }
}
