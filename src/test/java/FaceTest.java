import java.io.DataInputStream;
import java.io.IOException;
import java.lang.management.ManagementFactory;
import java.lang.reflect.Constructor;
import java.lang.reflect.Field;
import java.lang.reflect.Method;
import java.lang.reflect.Modifier;
import java.nio.file.Files;
import java.nio.file.Path;
import java.util.Set;
import java.util.TreeSet;

// The face of the document, the rules of LANGUAGE.md that can be looked up, and that wild calls never throw.
public final class FaceTest {
  private static final String[] FACE = {
    "int seat(int)", "int now(int)", "int verse(int)", "int member(int,int,int)", "int of(int,int)",
    "int set(int,int,int)", "int move(int,int)", "int turn(int,int)", "int as(int,int)", "int nights(int)",
    "int on(int,int,int)", "int learns(int,int)", "int spreads(int)", "int heresy()", "int best(int,int)",
    "int kind(int,int)", "int deep(int,int,int)", "int shift(int)", "int bears(int,int,int)", "int wisest(int)",
    "int feed(int,int)", "int wipe()", "int chapel()", "int sheet(int,int,int)", "long write(int,int,long)",
    "int copy(int,int,int,int,int)", "int lays(int)", "int book(int,int)", "int read(int,int,int)", "int image()",
    "int undo()", "int tear()", "int count(int)", "int status(int)"};
  private static final String[] RULED_OUT = {
    "throw", "try", "catch", "synchronized", "assert", "->", "::", "instanceof", "Exact(", "System.out", "static {"};

  /** What the class calls outside itself. Before one more comes to these, look whether LANGUAGE.md, rule 4, has it. */
  private static final Set<String> LIBRARY = Set.of(
    "java/lang/Object.<init>", "java/lang/System.arraycopy", "java/util/Arrays.fill", "java/lang/Math.max",
    "java/lang/Math.min", "java/lang/Integer.bitCount", "java/lang/String.length", "java/lang/String.charAt");

  private static int wrong = 0;
  private static long seed = 35L;

  private static void due(String what, boolean holds) {
    if (!holds) {
      wrong++;
      System.out.println("not so: " + what);
    }
  }

  public static void main(String[] args) throws Exception {
    face();
    nested();
    source();
    shortMethods();
    library();
    wildCalls();
    dearCallsMakeNothing();
    System.out.println(wrong == 0 ? "all is as due" : wrong + " things are not as due");
    if (wrong != 0) System.exit(1);
  }

  private static Set<String> names() {
    Set<String> names = new TreeSet<>();
    for (String each : FACE) names.add(each.substring(each.indexOf(' ') + 1, each.indexOf('(')));
    return names;
  }

  private static void face() {
    due("public and final", Modifier.isPublic(BackVerses.class.getModifiers())
        && Modifier.isFinal(BackVerses.class.getModifiers()));
    Set<String> want = new TreeSet<>(Set.of(FACE));
    Set<String> names = names();
    Set<String> got = new TreeSet<>();
    for (Method method : BackVerses.class.getDeclaredMethods()) {
      if (Modifier.isPrivate(method.getModifiers())) {
        due("private " + method.getName() + " has a name of its own", !names.contains(method.getName()));
        continue;
      }
      StringBuilder types = new StringBuilder();
      for (Class<?> type : method.getParameterTypes()) types.append(types.length() == 0 ? "" : ",").append(type);
      got.add(method.getReturnType() + " " + method.getName() + "(" + types + ")");
      due(method.getName() + " is public and no static", Modifier.isPublic(method.getModifiers())
          && !Modifier.isStatic(method.getModifiers()));
    }
    due("the face: " + got, got.equals(want));
    Constructor<?>[] constructors = BackVerses.class.getDeclaredConstructors();
    due("one constructor", constructors.length == 1 && constructors[0].getParameterCount() == 0
        && Modifier.isPublic(constructors[0].getModifiers()));
  }

  private static void nested() {
    Class<?>[] all = new Class<?>[BackVerses.class.getDeclaredClasses().length + 1];
    System.arraycopy(BackVerses.class.getDeclaredClasses(), 0, all, 1, all.length - 1);
    all[0] = BackVerses.class;
    due("at most twelve classes", all.length <= 12);
    for (Class<?> each : all) {
      int fields = 0;
      for (Field field : each.getDeclaredFields()) {
        boolean isStatic = Modifier.isStatic(field.getModifiers());
        if (!isStatic) fields++;
        due(field + " is final if static", !isStatic || Modifier.isFinal(field.getModifiers()));
        due(field + " is private in the face", each != BackVerses.class || Modifier.isPrivate(field.getModifiers()));
      }
      due(each + " has at most twenty fields", fields <= 20);
      due(each + " is static", each == BackVerses.class || Modifier.isStatic(each.getModifiers()));
      for (Method method : each.getDeclaredMethods()) {
        due(method + " has at most seven parameters", method.getParameterCount() <= 7);
        due(method + " has a name of its own", each == BackVerses.class || !names().contains(method.getName()));
      }
    }
  }

  private static void source() throws Exception {
    String text = Files.readString(Path.of("src/main/java/BackVerses.java"));
    String code = text.replaceAll("(?s)/\\*.*?\\*/", "").replaceAll("//[^\n]*", "");
    for (String word : RULED_OUT) {
      boolean letters = Character.isLetter(word.charAt(0)) && Character.isLetter(word.charAt(word.length() - 1));
      String pattern = letters ? "\\b" + java.util.regex.Pattern.quote(word) + "\\b" : java.util.regex.Pattern.quote(word);
      due("no " + word, !java.util.regex.Pattern.compile(pattern).matcher(code).find());
    }
    for (int i = 0; i < text.length(); i++) due("plain signs", text.charAt(i) < 128);
  }

  /** Rule 11: methods of some sixty lines. A method's head and its end are known by how far they are set in. */
  private static void shortMethods() throws Exception {
    int head = -1;
    String[] lines = Files.readString(Path.of("src/main/java/BackVerses.java")).split("\n");
    for (int i = 0; i < lines.length; i++) {
      String line = lines[i];
      int in = line.length() - line.stripLeading().length();
      if ((in == 4 || in == 8) && line.endsWith(") {") && head < 0) head = i;
      if (head >= 0 && line.strip().equals("}") && in == lines[head].length() - lines[head].stripLeading().length()) {
        due("at most sixty lines: " + lines[head].strip(), i - head < 60);
        head = -1;
      }
    }
    due("each method has an end", head < 0);
  }

  /** Rule 4, by what the compiled classes call. */
  private static void library() throws IOException {
    Set<String> called = new TreeSet<>();
    calls("BackVerses", called);
    for (Class<?> each : BackVerses.class.getDeclaredClasses()) calls(each.getName(), called);
    for (String each : called) due("the library has " + each, LIBRARY.contains(each));
  }

  private static void calls(String name, Set<String> called) throws IOException {
    try (DataInputStream in = new DataInputStream(BackVerses.class.getResourceAsStream(name + ".class"))) {
      in.readLong();
      int many = in.readUnsignedShort();
      int[] tags = new int[many];
      int[] first = new int[many];
      int[] second = new int[many];
      String[] texts = new String[many];
      for (int i = 1; i < many; i++) {
        tags[i] = in.readUnsignedByte();
        switch (tags[i]) {
          case 1: texts[i] = in.readUTF(); break;
          case 3: case 4: in.readInt(); break;
          case 5: case 6: in.readLong(); i++; break;
          case 7: case 8: case 16: case 19: case 20: first[i] = in.readUnsignedShort(); break;
          case 15: in.readUnsignedByte(); in.readUnsignedShort(); break;
          default: first[i] = in.readUnsignedShort(); second[i] = in.readUnsignedShort();
        }
      }
      for (int i = 1; i < many; i++) {
        due(name + " makes no call by invokedynamic", tags[i] != 18);
        if (tags[i] < 9 || tags[i] > 11) continue;
        String owner = texts[first[first[i]]];
        if (!owner.startsWith("BackVerses")) called.add(owner + "." + texts[first[second[i]]]);
      }
    }
  }

  private static int next() {
    seed = seed * 6364136223846793005L + 1442695040888963407L;
    return (int) (seed >>> 32);
  }

  /** Mostly small numbers, now and then a wild one. */
  private static int any() {
    int pick = next() & 15;
    if (pick == 0) return next();
    if (pick == 1) return Integer.MIN_VALUE + (next() & 1);
    if (pick == 2) return Integer.MAX_VALUE - (next() & 1);
    if (pick == 3) return (next() & 127) - 20;
    return Math.floorMod(next(), 14) - 1;
  }

  private static void wildCalls() throws Exception {
    Method[] methods = BackVerses.class.getDeclaredMethods();
    java.util.Arrays.sort(methods, (a, b) -> a.getName().compareTo(b.getName()));
    for (int run = 0; run < 1000; run++) {
      BackVerses x = new BackVerses();
      for (int m = next() & 7; m > 0; m--) x.member(Math.floorMod(next(), 6), Math.floorMod(next(), 12), m);
      // An object is promised for 512 calls, and each turn here makes three.
      for (int call = 0; call < 150; call++) {
        Method method = methods[Math.floorMod(next(), methods.length)];
        if (!Modifier.isPublic(method.getModifiers())) continue;
        long before = x.status(-1);
        Object[] with = new Object[method.getParameterCount()];
        for (int i = 0; i < with.length; i++) {
          with[i] = method.getParameterTypes()[i] == long.class ? (Object) (long) any() : (Object) any();
        }
        long answer = ((Number) method.invoke(x, with)).longValue();
        boolean finding = answer <= -1000000001L && answer >= -1000000007L && !method.getName().equals("write");
        if (!method.getName().equals("write")) {
          due(method.getName() + " counts its findings", x.status(-1) - before == (finding ? 1 : 0));
        }
      }
      inOrder(x);
    }
  }

  private static void inOrder(BackVerses x) {
    int sitting = 0;
    for (int seat = 0; seat < 12; seat++) {
      int who = x.seat(seat);
      if (who != -1) {
        sitting++;
        due("each is where it sits", x.of(who, 1) == seat);
      }
    }
    due("all sit", sitting == x.count(0) && x.count(3) == 12 - sitting);
  }

  private static void dearCallsMakeNothing() {
    com.sun.management.ThreadMXBean threads =
        (com.sun.management.ThreadMXBean) ManagementFactory.getThreadMXBean();
    long thread = Thread.currentThread().getId();
    BackVerses x = new BackVerses();
    for (int m = 0; m < 10; m++) x.member(m % 6, m, m);
    x.sheet(0, 64, 40);
    x.bears(0, 40, 10);
    threads.getThreadAllocatedBytes(thread);
    long before = threads.getThreadAllocatedBytes(thread);
    for (int i = 0; i < 40; i++) {
      x.bears(i % 10, 40, 10);
      x.best(i % 10, 40);
      x.shift(40);
      x.spreads(i % 10);
      x.book(0, i % 10);
      x.read(0, i % 10, (i + 1) % 10);
      x.image();
      x.undo();
      x.feed(0x626f7920, 4);
      x.chapel();
    }
    long made = threads.getThreadAllocatedBytes(thread) - before;
    due("400 dear calls make nothing: " + made + " bytes", made < 4096);
  }
}
