import java.io.ByteArrayOutputStream;
import java.io.File;
import java.io.IOException;
import java.io.PrintStream;
import java.net.URL;
import java.net.URLClassLoader;
import java.nio.file.Files;
import java.nio.file.Path;
import java.util.ArrayList;
import java.util.Comparator;
import java.util.List;
import java.util.regex.Matcher;
import java.util.regex.Pattern;
import java.util.stream.Stream;
import javax.tools.ToolProvider;

/** What README.md says of the class's use and of its tests: its example gives the answers that stand beside it. */
public final class ReadmeTest {
  private static final Pattern EXAMPLE = Pattern.compile("(?s)```java\n(.*?)```");
  private static final Pattern ANSWER =
      Pattern.compile("System\\.out\\.println\\(x\\.\\w+\\(.*\\)\\);\\s+// (-?\\d+)(: .*)?");

  public static void main(String[] args) throws Exception {
    String readme = Files.readString(Path.of("README.md"));
    example(readme);
    calls(readme);
    command(readme);
    Due.end();
  }

  private static void example(String readme) throws Exception {
    Due due = new Due("README.md, its example");
    Matcher example = EXAMPLE.matcher(readme);
    due.is("there is one", example.find() ? 1 : 0, 1);
    String program = example.group(1);
    List<String> answers = answersBeside(program);
    due.same("what it prints", String.join(" ", run(program)), String.join(" ", answers));
    due.is("it shows 20 answers or more", answers.size() >= 20 ? 1 : 0, 1);
    due.is("there is no other example", example.find() ? 1 : 0, 0);
  }

  private static List<String> answersBeside(String program) {
    List<String> answers = new ArrayList<>();
    for (String line : program.split("\n")) {
      Matcher answer = ANSWER.matcher(line.strip());
      if (line.contains("println")) {
        answers.add(answer.matches() ? answer.group(1) : "no answer beside " + line.strip());
      }
    }
    return answers;
  }

  private static List<String> run(String program) throws Exception {
    Path folder = Files.createTempDirectory("readme");
    try {
      Path source = folder.resolve("Example.java");
      Files.writeString(source, program);
      int failed = ToolProvider.getSystemJavaCompiler().run(null, null, null, "-encoding", "UTF-8", "-cp",
          System.getProperty("java.class.path"), "-d", folder.toString(), source.toString());
      return failed == 0 ? printed(folder) : List.of("it does not compile");
    } finally {
      remove(folder);
    }
  }

  private static List<String> printed(Path folder) throws Exception {
    ByteArrayOutputStream bytes = new ByteArrayOutputStream();
    PrintStream before = System.out;
    System.setOut(new PrintStream(bytes, true));
    try (URLClassLoader loader = new URLClassLoader(new URL[] {folder.toUri().toURL()})) {
      loader.loadClass("Example").getMethod("main", String[].class).invoke(null, (Object) new String[0]);
    } finally {
      System.setOut(before);
    }
    return bytes.toString().lines().toList();
  }

  private static void remove(Path folder) throws IOException {
    try (Stream<Path> files = Files.walk(folder)) {
      files.sorted(Comparator.reverseOrder()).map(Path::toFile).forEach(File::delete);
    }
  }

  private static void calls(String readme) {
    Due due = new Due("README.md, the calls");
    for (java.lang.reflect.Method m : FencedStandbys.class.getMethods()) {
      if (m.getDeclaringClass() == FencedStandbys.class) {
        due.is("it names " + m.getName(), readme.contains("`" + m.getName() + "`") ? 1 : 0, 1);
      }
    }
  }

  private static void command(String readme) {
    Due due = new Due("README.md, the tests");
    due.is("it names .ci/run", readme.contains("\n    .ci/run\n") ? 1 : 0, 1);
    due.is(".ci/run can be called", Files.isExecutable(Path.of(".ci/run")) ? 1 : 0, 1);
    for (File test : new File("src/test/java").listFiles()) {
      String name = test.getName().replace(".java", "");
      if (name.endsWith("Test")) {
        due.is("it names " + name, readme.contains("`" + name + "`") ? 1 : 0, 1);
      }
    }
  }
}
