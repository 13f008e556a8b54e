import java.util.ArrayList;
import java.util.List;

// Promises 11 to 21, and 29 and 30 again: nights and what is best, by hand and against a second telling of section 1.
public final class AheadTest {
  private static final int BEYOND = -1000000001;
  private static final int NONE = -1000000004;
  private static final int[] WILD = {Integer.MIN_VALUE, -1000000001, -2, -1, 101, Integer.MAX_VALUE};

  private static int wrong = 0;
  private static long seed = 20261118L;

  private static void due(String call, long got, long want) {
    if (got != want) {
      wrong++;
      if (wrong < 50) System.out.println(call + " answered " + got + ", due is " + want);
    }
  }

  public static void main(String[] args) {
    findings();
    theEdges();
    byHand();
    allAtOnce();
    for (int round = 0; round < 400; round++) againstModel(round);
    System.out.println(wrong == 0 ? "all answers are as due" : wrong + " answers are not as due");
    if (wrong != 0) System.exit(1);
  }

  private static void findings() {
    BackVerses x = new BackVerses();
    due("nobody: wisest(0)", x.wisest(0), NONE);
    due("nobody: shift(1)", x.shift(1), NONE);
    due("nobody: spreads(9)", x.spreads(9), 0);
    due("nobody: heresy()", x.heresy(), NONE);
    due("nobody: nights(60)", x.nights(60), 0);
    x.member(0, 0, 0);
    x.member(0, 1, 1);
    for (int w : WILD) {
      due("nights(" + w + ")", x.nights(w), BEYOND);
      due("on(0, " + w + ", 0)", x.on(0, w, 0), BEYOND);
      due("on(" + w + ", 0, 0)", x.on(w, 0, 0), BEYOND);
      due("on(0, 0, " + w + ")", x.on(0, 0, w), BEYOND);
      due("learns(" + w + ", 0)", x.learns(w, 0), BEYOND);
      due("learns(0, " + w + ")", x.learns(0, w), BEYOND);
      due("spreads(" + w + ")", x.spreads(w), BEYOND);
      due("best(" + w + ", 1)", x.best(w, 1), BEYOND);
      due("best(0, " + w + ")", x.best(0, w), BEYOND);
      due("kind(" + w + ", 1)", x.kind(w, 1), BEYOND);
      due("kind(0, " + w + ")", x.kind(0, w), BEYOND);
      due("deep(" + w + ", 0, 1)", x.deep(w, 0, 1), BEYOND);
      due("deep(0, " + w + ", 1)", x.deep(0, w, 1), BEYOND);
      due("deep(0, 1, " + w + ")", x.deep(0, 1, w), BEYOND);
      due("shift(" + w + ")", x.shift(w), BEYOND);
      due("bears(" + w + ", 0, 0)", x.bears(w, 0, 0), BEYOND);
      due("bears(0, " + w + ", 0)", x.bears(0, w, 0), BEYOND);
      due("bears(0, 0, " + w + ")", x.bears(0, 0, w), BEYOND);
      due("wisest(" + w + ")", x.wisest(w), BEYOND);
    }
    due("deep of one and the same", x.deep(1, 1, 1), BEYOND);
    due("status(0)", x.status(0), 19 * WILD.length + 1);
    due("status(3)", x.status(3), 3);
    due("now(0)", x.now(0), 60);
  }

  private static void theEdges() {
    BackVerses x = new BackVerses();
    x.member(0, 0, 0);
    due("on(1, 0, 0)", x.on(1, 0, 0), BEYOND);
    due("on(0, 100, 0)", x.on(0, 100, 0), 0);
    due("on(0, 100, 1)", x.on(0, 100, 1), 0);
    due("on(0, 0, 2)", x.on(0, 0, 2), BEYOND);
    due("learns(1, 0)", x.learns(1, 0), BEYOND);
    due("learns(0, 10)", x.learns(0, 10), BEYOND);
    due("spreads(10)", x.spreads(10), BEYOND);
    due("nights(0)", x.nights(0), BEYOND);
    due("nights(61)", x.nights(61), BEYOND);
    due("nights(60)", x.nights(60), 0);
    due("best(0, 0)", x.best(0, 0), BEYOND);
    due("best(0, 41)", x.best(0, 41), BEYOND);
    due("best(0, 40)", x.best(0, 40), 0);
    due("kind(0, 0)", x.kind(0, 0), BEYOND);
    due("kind(0, 41)", x.kind(0, 41), BEYOND);
    due("kind(0, 40)", x.kind(0, 40), 0);
    due("deep(0, 1, 0)", x.deep(0, 1, 0), BEYOND);
    due("shift(0)", x.shift(0), BEYOND);
    due("shift(41)", x.shift(41), BEYOND);
    due("shift(40)", x.shift(40), 0);
    due("bears(0, 41, 0)", x.bears(0, 41, 0), BEYOND);
    due("bears(0, 0, 11)", x.bears(0, 0, 11), BEYOND);
    due("bears(0, 0, 0)", x.bears(0, 0, 0), 99);
    due("bears(0, 0, 1)", x.bears(0, 0, 1), NONE);
    due("bears(0, 40, 10)", x.bears(0, 40, 10), NONE);
    due("bears(0, 40, 0)", x.bears(0, 40, 0), 99);
    due("wisest(101)", x.wisest(101), BEYOND);
    due("wisest(100)", x.wisest(100), 0);
    x.member(0, 1, 1);
    due("deep(0, 1, 41)", x.deep(0, 1, 41), BEYOND);
    due("deep(0, 1, 40)", x.deep(0, 1, 40), NONE);
    due("deep(1, 0, 0)", x.deep(1, 0, 0), NONE);
    due("deep(1, 0, 1)", x.deep(1, 0, 1), 5);
    x.set(0, 4, 2);
    due("known already", x.deep(1, 0, 0), 1);
    due("known already", x.learns(0, 1), 0);
    due("nights above", x.nights(60), 2);
  }

  private static void byHand() {
    BackVerses x = new BackVerses();
    x.member(4, 0, 7); // a HERETIC, who is told its own VERSE by the ELDER that it sits behind
    x.member(1, 1, 3);
    x.member(2, 2, 7);
    x.member(3, 3, 7);
    x.set(2, 3, 3);
    due("heresy()", x.heresy(), 2);
    due("learns(0, 3)", x.learns(0, 3), 1);
    due("learns(0, 7)", x.learns(0, 7), 2);
    due("learns(1, 7)", x.learns(1, 7), 1);
    due("learns(1, 3)", x.learns(1, 3), NONE);
    due("spreads(7)", x.spreads(7), 1);
    // The BOY feels only the STRANGER, whose VERSE is another.
    due("spreads(3)", x.spreads(3), NONE);
    x.set(2, 4, 8);
    due("spreads(3)", x.spreads(3), 1);
    due("on(0, 1, 0)", x.on(0, 1, 0), 8);
    due("on(0, 2, 0)", x.on(0, 2, 0), 136);
    due("on(0, 2, 1)", x.on(0, 2, 1), 16);
    due("nights(2)", x.nights(2), 136);
    due("heresy()", x.heresy(), 0);
    due("now(4)", x.now(4), 2 + 1 + 1);
    due("wisest(0)", x.wisest(0), 0);
    due("nothing changed", x.now(0), 2);
  }

  private static void allAtOnce() {
    // What one is told in a NIGHT is what the other KNOWS as the NIGHT begins, whoever comes first by number.
    for (int turned = 0; turned < 2; turned++) {
      BackVerses x = new BackVerses();
      for (int m = 0; m < 5; m++) x.member(3, turned == 0 ? m : 4 - m, 9);
      int last = turned == 0 ? 4 : 0;
      x.set(last, 4, 1);
      for (int n = 0; n <= 4; n++) due("on a chain", x.learns(turned == 0 ? 4 - n : n, 0), n);
      x.nights(2);
      due("three know", x.now(4), 3);
    }
  }

  // ---- against a second telling

  private static int upTo(int n) {
    seed = seed * 6364136223846793005L + 1442695040888963407L;
    return (int) ((seed >>> 33) % (n + 1));
  }

  private static void againstModel(int round) {
    BackVerses x = new BackVerses();
    Model model = new Model();
    int many = 1 + upTo(9);
    int seats = many + upTo(12 - many);
    for (int m = 0; m < many; m++) {
      int kind = upTo(5);
      int seat = upTo(seats - 1);
      while (x.seat(seat) != -1) seat = (seat + 1) % 12;
      int verse = upTo(9);
      due("round " + round + " member", x.member(kind, seat, verse), m);
      Person p = new Person(kind, seat, verse);
      p.deep = 1 + upTo(8);
      p.tired = upTo(1) == 0 ? 0 : upTo(99);
      p.knows = upTo(2) == 0 ? upTo(1023) & upTo(1023) : 0;
      x.set(m, 3, p.deep);
      x.set(m, 4, p.knows);
      x.set(m, 5, p.tired);
      model.people.add(p);
    }
    int first = upTo(6);
    if (first > 0) {
      x.nights(first);
      for (int i = 0; i < first; i++) model.pass();
    }
    x.image();
    ask(x, model, "round " + round + " ");
    due("round " + round + " nothing changed", stateOf(x), stateOf(model));
    int n = 1 + upTo(59);
    for (int i = 0; i < n; i++) model.pass();
    int known = 0;
    for (Person p : model.people) known |= p.knows;
    due("round " + round + " nights(" + n + ")", x.nights(n), known);
    due("round " + round + " state after nights", stateOf(x), stateOf(model));
  }

  private static long stateOf(BackVerses x) {
    long state = x.now(0);
    for (int m = 0; m < x.count(0); m++) {
      for (int what = 0; what < 10; what++) state = state * 1000003 + x.of(m, what);
    }
    return state;
  }

  private static long stateOf(Model model) {
    long state = model.night;
    for (Person p : model.people) {
      Person felt = model.felt(p);
      int[] all = {p.kind, p.seat, p.verse, p.deep, p.knows, p.tired, p.ways().feels(p), model.people.indexOf(felt),
        felt != null && model.reads(p, felt) ? 1 : 0, p.ways().tells(p)};
      for (int one : all) state = state * 1000003 + one;
    }
    return state;
  }

  private static void ask(BackVerses x, Model model, String round) {
    int many = model.people.size();
    int m = upTo(many - 1);
    int other = upTo(many - 1);
    int far = upTo(100);
    int near = 1 + upTo(39);
    int v = upTo(9);
    due(round + "on knows", x.on(m, far, 0), model.ahead(far).people.get(m).knows);
    due(round + "on tired", x.on(m, far, 1), model.ahead(far).people.get(m).tired);
    due(round + "learns", x.learns(m, v), model.learns(m, v));
    due(round + "spreads", x.spreads(v), model.spreads(v));
    due(round + "heresy", x.heresy(), model.heresy());
    due(round + "best", x.best(m, near), model.best(m, near));
    due(round + "kind", x.kind(m, near), model.bestKind(m, near));
    due(round + "deep", x.deep(m, other, near), m == other ? BEYOND : model.leastDeep(m, other, near));
    due(round + "shift", x.shift(near), model.shift(near));
    int knows = Integer.bitCount(model.people.get(m).knows);
    for (int more = 0; more < 3 && knows + more <= 10; more++) {
      due(round + "bears", x.bears(m, near, knows + more), model.bears(m, near, knows + more));
    }
    due(round + "wisest", x.wisest(far), model.wisest(far));
    int numbers = upTo(40);
    x.sheet(0, 16, numbers);
    due(round + "book", x.book(0, m), numbers);
    due(round + "read", x.read(0, m, other), m == other ? BEYOND : model.pairs(m, other, numbers));
    for (int i = 0; i < numbers; i++) due(round + "number", x.write(0, i, 0), model.ahead(i).people.get(m).knows);
  }

  /** What a KIND does, each KIND saying only how it differs from the one above it. */
  private static class Ways {
    int feels(Person p) { return 1; }
    boolean reads(Person p, int deep, int night) { return deep >= 5; }
    int tells(Person p) { return 0; }
    int tires(boolean reads) { return -5 + (reads ? 8 : 0); }
    boolean mayKnowItsOwn() { return false; }
  }

  private static class Elder extends Ways {
    @Override int feels(Person p) { return super.feels(p) + 1; }
    @Override boolean reads(Person p, int deep, int night) { return deep >= 3; }
    @Override int tells(Person p) { return Integer.lowestOneBit(p.knows); }
    @Override int tires(boolean reads) { return super.tires(reads) + 2; }
  }

  private static class Boy extends Ways {
    @Override boolean reads(Person p, int deep, int night) { return deep + night % 4 >= 7; }
    @Override int tells(Person p) { return p.knows ^ Integer.highestOneBit(p.knows); }
    @Override int tires(boolean reads) { return super.tires(reads) * 2; }
  }

  private static class Stranger extends Ways {
    @Override int feels(Person p) { return 0; }
    @Override boolean reads(Person p, int deep, int night) { return true; }
    @Override int tells(Person p) { return p.knows; }
    @Override int tires(boolean reads) { return 0; }
  }

  private static class Heretic extends Elder {
    @Override int tells(Person p) {
      return Integer.bitCount(p.knows) >= 4 ? Integer.highestOneBit(p.knows) : super.tells(p);
    }
    @Override int tires(boolean reads) { return super.tires(reads) + 3; }
    @Override boolean mayKnowItsOwn() { return true; }
  }

  private static class Choirboy extends Boy {
    @Override int feels(Person p) { return super.feels(p) + (p.tired < 10 ? 1 : 0); }
    @Override boolean reads(Person p, int deep, int night) { return deep == 9 || super.reads(p, deep, night); }
  }

  private static final Ways[] WAYS =
      {new Ways(), new Elder(), new Boy(), new Stranger(), new Heretic(), new Choirboy()};

  private static final class Person {
    int kind;
    int seat;
    int verse;
    int deep = 5;
    int knows;
    int tired;

    Person(int kind, int seat, int verse) {
      this.kind = kind;
      this.seat = seat;
      this.verse = verse;
    }

    Person same() {
      Person p = new Person(kind, seat, verse);
      p.deep = deep;
      p.knows = knows;
      p.tired = tired;
      return p;
    }

    Ways ways() { return WAYS[kind]; }

    boolean knowsVerse(int v) { return (knows >> v & 1) == 1; }

    int many() { return Integer.bitCount(knows); }
  }

  private static final class Model {
    int night;
    List<Person> people = new ArrayList<>();

    Model same() {
      Model model = new Model();
      model.night = night;
      for (Person p : people) model.people.add(p.same());
      return model;
    }

    Model ahead(int n) {
      Model model = same();
      for (int i = 0; i < n; i++) model.pass();
      return model;
    }

    Person in(int seat) {
      for (Person p : people) if (p.seat == seat) return p;
      return null;
    }

    Person felt(Person p) {
      Person nearest = null;
      for (int far = p.ways().feels(p); far > 0; far--) {
        Person there = in(p.seat + far);
        if (there != null) nearest = there;
      }
      return nearest;
    }

    boolean reads(Person p, Person felt) {
      return p.tired < 60 && p.ways().reads(p, felt.deep, night);
    }

    void pass() {
      List<Person> next = new ArrayList<>();
      for (Person p : people) {
        Person felt = felt(p);
        boolean reads = felt != null && reads(p, felt);
        Person front = in(p.seat + 1);
        int gets = (reads ? 1 << felt.verse : 0) | (front == null ? 0 : front.ways().tells(front));
        if ((gets >> p.verse & 1) == 1 && !p.ways().mayKnowItsOwn()) gets -= 1 << p.verse;
        Person then = p.same();
        then.knows |= gets;
        then.tired = Math.min(99, Math.max(0, p.tired + p.ways().tires(reads)));
        next.add(then);
      }
      people = next;
      night++;
    }

    int learns(int m, int v) {
      for (int n = 0; n <= 100; n++) if (ahead(n).people.get(m).knowsVerse(v)) return n;
      return NONE;
    }

    int spreads(int v) {
      for (int n = 0; n <= 100; n++) {
        int lacking = 0;
        for (Person p : ahead(n).people) if (p.kind != 3 && p.verse != v && !p.knowsVerse(v)) lacking++;
        if (lacking == 0) return n;
      }
      return NONE;
    }

    int heresy() {
      for (int n = 0; n <= 100; n++) {
        for (Person p : ahead(n).people) if (p.knowsVerse(p.verse)) return n;
      }
      return NONE;
    }

    int best(int m, int n) {
      int most = -1;
      int best = -1;
      for (int seat = 11; seat >= 0; seat--) {
        Person there = in(seat);
        if (there != null && there != people.get(m)) continue;
        Model tried = same();
        tried.people.get(m).seat = seat;
        int many = tried.ahead(n).people.get(m).many();
        if (many >= most) {
          most = many;
          best = seat;
        }
      }
      return best;
    }

    int bestKind(int m, int n) {
      int most = -1;
      int best = -1;
      for (int kind = 5; kind >= 0; kind--) {
        Model tried = same();
        tried.people.get(m).kind = kind;
        int many = tried.ahead(n).people.get(m).many();
        if (many >= most) {
          most = many;
          best = kind;
        }
      }
      return best;
    }

    int leastDeep(int m, int other, int n) {
      for (int deep = 1; deep <= 9; deep++) {
        Model tried = same();
        tried.people.get(m).deep = deep;
        if (tried.ahead(n).people.get(other).knowsVerse(people.get(m).verse)) return deep;
      }
      return NONE;
    }

    int shift(int n) {
      int empty = 0;
      while (in(empty) != null) empty++;
      int most = -1;
      int best = -1;
      for (int m = people.size() - 1; m >= 0; m--) {
        Model tried = same();
        tried.people.get(m).seat = empty;
        int many = 0;
        for (Person p : tried.ahead(n).people) many += p.many();
        if (many >= most) {
          most = many;
          best = m;
        }
      }
      return best;
    }

    int bears(int m, int n, int v) {
      int greatest = NONE;
      for (int tired = 0; tired <= 99; tired++) {
        Model tried = same();
        tried.people.get(m).tired = tired;
        if (tried.ahead(n).people.get(m).many() >= v) greatest = tired;
      }
      return greatest;
    }

    int wisest(int n) {
      Model then = ahead(n);
      int best = 0;
      for (int m = 0; m < people.size(); m++) {
        if (then.people.get(m).many() > then.people.get(best).many()) best = m;
      }
      return best;
    }

    int pairs(int m, int other, int numbers) {
      int pairs = 0;
      for (int pair = 0; pair < 36; pair++) {
        Model tried = same();
        tried.people.get(m).kind = pair / 6;
        tried.people.get(other).kind = pair % 6;
        boolean same = true;
        for (int i = 0; i < numbers && same; i++) {
          same = tried.ahead(i).people.get(m).knows == ahead(i).people.get(m).knows;
        }
        if (same) pairs++;
      }
      return pairs;
    }
  }
}
