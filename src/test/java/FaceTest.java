import java.io.IOException;
import java.lang.reflect.Constructor;
import java.lang.reflect.Field;
import java.lang.reflect.Method;
import java.lang.reflect.Modifier;
import java.nio.file.Files;
import java.nio.file.Path;
import java.util.Arrays;
import java.util.Collections;
import java.util.List;
import java.util.TreeSet;
import java.util.regex.Matcher;
import java.util.regex.Pattern;

/** The public face, as the document prints it, and the rules of LANGUAGE.md that can be seen without reading. */
public final class FaceTest {
  private static final Path SOURCE = Path.of("src/main/java/FencedStandbys.java");
  /** As the document prints it. */
  private static final String FACE = """
      public final class FencedStandbys {
          public static final int INVALID_ARGUMENT = -1000001;
          public static final int NOT_POSSIBLE = -1000002;
          public static final int LIMIT_REACHED = -1000003;
          public static final int NOT_FOUND = -1000004;
          public FencedStandbys();
          public int open(int slot);
          public int put(int slot, int key, int value);
          public int commit(int slot);
          public int abort(int slot);
          public int ship(int standby, int many);
          public int lose(int standby, int record);
          public int resend(int standby);
          public int tick(int ticks);
          public int promote(int standby);
          public int rebuild(int standby);
          public int set(int what, int value);
          public int read(int standby, int key, int fence);
          public int primary(int slot, int key);
          public int serves(int fence);
          public int fence(int key);
          public int recordOf(int record, int what);
          public int standbyOf(int standby, int what);
          public int slotOf(int slot, int what);
          public int waits(int standby, int fence);
          public int wouldLose(int standby);
          public int rateFor(int standby, int ticks);
          public int count(int what);
          public int undo();
          public int type(int character);
          public int clearText();
          public int fault(int what);
          public int play();
      }
      """;
  /** What the interface says ahead of the calls. */
  private static final List<String> SECTIONS = List.of("primary: open put commit abort",
      "standbys: ship lose resend tick promote rebuild set", "reads: read primary serves fence",
      "what there is: recordOf standbyOf slotOf", "what would be: waits wouldLose rateFor count undo",
      "texts: type clearText fault play");
  private static final List<String> METHODS = List.of("open 1", "put 3", "commit 1", "abort 1", "ship 2", "lose 2",
      "resend 1", "tick 1", "promote 1", "rebuild 1", "set 2", "read 3", "primary 2", "serves 1", "fence 1",
      "recordOf 2", "standbyOf 2", "slotOf 2", "waits 2", "wouldLose 1", "rateFor 2", "count 1", "undo 0", "type 1",
      "clearText 0", "fault 1", "play 0");
  /** Each behind the number of the rule of LANGUAGE.md that rules it out. */
  private static final List<String> RULED_OUT = List.of("0 \\bpackage\\b", "2 ::",
      "3 \\b(Object|Long|Character|Boolean|Double|Map|Set|Optional|var)\\b(?!\\.)", "4 \\w+Exact\\b",
      "4 \\bSystem\\.(?!arraycopy\\b)", "4 \\bimport (?!java\\.util\\.(ArrayList|List|Arrays|Iterator);)",
      "5 \\bstatic\\s*\\{",
      "6 \\b(throw|try|catch|synchronized|assert)\\b", "6 \\b(equals|hashCode|toString)\\s*\\([^)]*\\)\\s*\\{",
      "13 \\b(Random|Thread|Runtime)\\b");
  private static final List<Class<?>> STATIC_TYPES = List.of(int.class, long.class, boolean.class, char.class,
      String.class, int[].class, long[].class, char[].class, byte[].class);

  public static void main(String[] args) throws IOException {
    face();
    sections();
    constants();
    methods();
    hiddenMembers();
    words();
    room();
    Due.end();
  }

  /** The source declares each member in the words of the document, in its order, and no other public one. */
  private static void face() throws IOException {
    Due due = new Due("the public face");
    List<String> printed = FACE.lines().map(String::strip).filter(line -> line.startsWith("public")).toList();
    List<String> found = Files.readAllLines(SOURCE).stream().map(String::strip)
        .filter(line -> line.startsWith("public")).map(FaceTest::asPrinted).toList();
    due.same("its lines", String.join("\n", found), String.join("\n", printed));
  }

  private static void sections() throws IOException {
    Due due = new Due("what the interface says ahead of the calls");
    StringBuilder found = new StringBuilder();
    Matcher said = Pattern.compile("// ---- (.*)|public int (\\w+)\\(").matcher(Files.readString(SOURCE));
    while (said.find()) {
      found.append(said.group(1) != null ? "\n" + said.group(1) + ":" : " " + said.group(2));
    }
    due.same("its sections", found.toString().strip(), String.join("\n", SECTIONS));
  }

  private static String asPrinted(String line) {
    return line.endsWith(") {") ? line.replace(") {", ");") : line;
  }

  private static void constants() {
    Due due = new Due("the constants");
    due.is("INVALID_ARGUMENT", FencedStandbys.INVALID_ARGUMENT, -1000001);
    due.is("NOT_POSSIBLE", FencedStandbys.NOT_POSSIBLE, -1000002);
    due.is("LIMIT_REACHED", FencedStandbys.LIMIT_REACHED, -1000003);
    due.is("NOT_FOUND", FencedStandbys.NOT_FOUND, -1000004);
    due.is("how many public fields", FencedStandbys.class.getFields().length, 4);
  }

  private static void methods() {
    Due due = new Due("the public methods");
    TreeSet<String> found = new TreeSet<>();
    for (Method m : FencedStandbys.class.getDeclaredMethods()) {
      due.is(m + " is no lambda", m.isSynthetic() ? 1 : 0, 0);
      boolean isPublic = Modifier.isPublic(m.getModifiers());
      if (isPublic) {
        found.add(m.getName() + " " + m.getParameterCount());
        boolean ofInts = Arrays.stream(m.getParameterTypes()).allMatch(type -> type == int.class);
        due.is(m + " is of ints", m.getReturnType() == int.class && ofInts ? 1 : 0, 1);
      }
      due.is(m + " takes at most 7", m.getParameterCount() <= 7 ? 1 : 0, 1);
      due.is(m + " is public or private", isPublic || Modifier.isPrivate(m.getModifiers()) ? 1 : 0, 1);
      due.is(m + ": no private one has a public one's name", isPublic || !isPublicName(m.getName()) ? 1 : 0, 1);
    }
    due.is("the public ones are those of the document: " + found, found.equals(new TreeSet<>(METHODS)) ? 1 : 0, 1);
    Constructor<?>[] constructors = FencedStandbys.class.getDeclaredConstructors();
    due.is("constructors", constructors.length, 1);
    due.is("its parameters", constructors[0].getParameterCount(), 0);
    due.is("the class is public and final",
        FencedStandbys.class.getModifiers() & (Modifier.PUBLIC | Modifier.FINAL), Modifier.PUBLIC | Modifier.FINAL);
  }

  private static boolean isPublicName(String name) {
    return METHODS.stream().anyMatch(method -> method.startsWith(name + " "));
  }

  private static void hiddenMembers() {
    Due due = new Due("the rest");
    for (Field f : FencedStandbys.class.getDeclaredFields()) {
      boolean isPrivate = Modifier.isPrivate(f.getModifiers());
      due.is(f + " is private, or one of the constants", isPrivate || Modifier.isPublic(f.getModifiers()) ? 1 : 0, 1);
    }
    staticFields(due, FencedStandbys.class);
    due.is("classes inside are at most 11", FencedStandbys.class.getDeclaredClasses().length <= 11 ? 1 : 0, 1);
    for (Class<?> inside : FencedStandbys.class.getDeclaredClasses()) {
      due.is(inside + " is static", inside.getModifiers() & Modifier.STATIC, Modifier.STATIC);
      due.is(inside + " is private or package-visible", inside.getModifiers() & (Modifier.PUBLIC | Modifier.PROTECTED), 0);
      staticFields(due, inside);
      long fields = Arrays.stream(inside.getDeclaredFields()).filter(f -> !Modifier.isStatic(f.getModifiers())).count();
      due.is(inside + " has at most 20 fields", fields <= 20 ? 1 : 0, 1);
      for (Method m : inside.getDeclaredMethods()) {
        due.is(m + " is no lambda", m.isSynthetic() ? 1 : 0, 0);
        due.is(m + " has no public one's name", isPublicName(m.getName()) ? 1 : 0, 0);
        due.is(m + " takes at most 7", m.getParameterCount() <= 7 ? 1 : 0, 1);
      }
    }
  }

  private static void staticFields(Due due, Class<?> of) {
    for (Field f : of.getDeclaredFields()) {
      if (Modifier.isStatic(f.getModifiers()) && !f.isSynthetic()) {
        due.is(f + " is final", f.getModifiers() & Modifier.FINAL, Modifier.FINAL);
        due.is(f + " is of a type that static ones may have", STATIC_TYPES.contains(f.getType()) ? 1 : 0, 1);
      }
    }
  }

  private static void words() throws IOException {
    Due due = new Due("the source");
    String source = Files.readString(SOURCE);
    String code = source.replaceAll("(?s)/\\*.*?\\*/", " ").replaceAll("//[^\n]*", " ");
    for (String ruledOut : RULED_OUT) {
      int space = ruledOut.indexOf(' ');
      Matcher found = Pattern.compile(ruledOut.substring(space + 1)).matcher(code);
      due.same("the rule " + ruledOut.substring(0, space), found.find() ? found.group() : "", "");
    }
    due.is("signs beyond 127", source.chars().filter(sign -> sign > 127).count(), 0);
  }

  /** Asks for the bytes that the dearest calls make, of the thread that makes them. */
  private static void room() {
    Due due = new Due("the room");
    com.sun.management.ThreadMXBean threads =
        (com.sun.management.ThreadMXBean) java.lang.management.ManagementFactory.getThreadMXBean();
    long self = Thread.currentThread().getId();
    callAll(new FencedStandbys());
    long before = threads.getThreadAllocatedBytes(self);
    FencedStandbys x = new FencedStandbys();
    long made = threads.getThreadAllocatedBytes(self);
    callAll(x);
    long called = threads.getThreadAllocatedBytes(self);
    due.is("a new object takes under 64 KiB: " + (made - before), made - before < 65536 ? 1 : 0, 1);
    due.is("500 calls make nearly nothing: " + (called - made), called - made < 65536 ? 1 : 0, 1);
  }

  private static void callAll(FencedStandbys x) {
    for (char c : String.join("", Collections.nCopies(15, "t99;")).toCharArray()) {
      x.type(c);
    }
    for (int i = 0; i < 37; i++) {
      x.open(0);
      x.put(0, i % 24, i);
      x.commit(0);
      x.ship(i % 2, 20);
      x.play();
      x.fault(0);
      x.standbyOf(1, 8);
      x.rateFor(0, 99);
      x.waits(0, x.count(0));
      x.undo();
      x.promote(i % 9 == 8 ? 1 : 2);
    }
  }
}
