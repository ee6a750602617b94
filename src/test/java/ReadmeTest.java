import java.io.File;
import java.io.IOException;
import java.lang.reflect.InvocationTargetException;
import java.lang.reflect.Method;
import java.net.URL;
import java.net.URLClassLoader;
import java.nio.file.Files;
import java.nio.file.Path;
import java.util.ArrayList;
import java.util.List;
import java.util.Set;
import java.util.TreeSet;
import java.util.regex.Matcher;
import java.util.regex.Pattern;
import java.util.stream.Stream;
import javax.tools.ToolProvider;

/** README.md holds what it says: its lines run and answer so, and it leaves out no call and no test. */
public final class ReadmeTest {
  private static final Due DUE = new Due();
  private static final Path TESTS = Path.of("src/test/java");
  private static final Pattern CALL =
      Pattern.compile("(?m)^(x\\.\\w+\\([^;]*\\));\\s*// (-?\\d+)(?=:|$)");

  public static void main(String[] args) throws Exception {
    String page = Files.readString(Path.of("README.md"));
    linesAnswerSo(page);
    namesEachCall(page);
    namesEachTest(page);
    namesEachRefusal(page);
    DUE.end("ReadmeTest");
  }

  private static void is(String what, boolean right) {
    DUE.is(what, right ? 1 : 0, 1);
  }

  private static String between(String page, String from, String to) {
    int start = page.indexOf(from);
    int end = start < 0 ? -1 : page.indexOf(to, start + from.length());
    is("README.md has " + from + " .. " + to, end >= 0);
    return end < 0 ? "" : page.substring(start + from.length(), end);
  }

  // ---- the lines of use

  private static void linesAnswerSo(String page) throws Exception {
    String lines = between(page, "```java\n", "```");
    List<String> calls = new ArrayList<>();
    StringBuilder run = new StringBuilder();
    Matcher m = CALL.matcher(lines);
    while (m.find()) {
      String kept = "got[" + calls.size() + "] = " + m.group(1) + "; want[" + calls.size() + "] = " + m.group(2) + "; //";
      calls.add(m.group(1));
      m.appendReplacement(run, Matcher.quoteReplacement(kept));
    }
    m.appendTail(run);
    is("lines with an answer", calls.size() >= 20);
    is("each line at the left with a remark tells its answer",
        Pattern.compile("(?m)^x\\..*//").matcher(lines).results().count() == calls.size());
    long[][] answers = answersOf(run.toString(), calls.size());
    for (int i = 0; i < calls.size(); i++) {
      DUE.is("README.md: " + calls.get(i), answers[0][i], answers[1][i]);
    }
  }

  private static long[][] answersOf(String lines, int n) throws Exception {
    Path folder = Files.createTempDirectory("readme");
    try {
      Path file = folder.resolve("ReadmeLines.java");
      Files.writeString(file, "public final class ReadmeLines {\n"
          + "public static void run(long[] got, long[] want) {\n" + lines + "\n}\n}\n");
      String path = System.getProperty("java.class.path");
      int wrong = ToolProvider.getSystemJavaCompiler().run(null, System.out, System.out,
          "-cp", path, "-d", folder.toString(), file.toString());
      DUE.is("README.md: its lines compile", wrong, 0);
      return wrong == 0 ? runLines(folder, n) : new long[][] {new long[n], new long[n]};
    } finally {
      remove(folder);
    }
  }

  private static long[][] runLines(Path folder, int n)
      throws IOException, ReflectiveOperationException {
    long[][] answers = {new long[n], new long[n]};
    try (URLClassLoader loader = new URLClassLoader(new URL[] {folder.toUri().toURL()})) {
      loader.loadClass("ReadmeLines").getMethod("run", long[].class, long[].class)
          .invoke(null, answers[0], answers[1]);
    } catch (InvocationTargetException e) {
      is("README.md: its lines run: " + e.getCause(), false);
    }
    return answers;
  }

  private static void remove(Path folder) {
    File[] files = folder.toFile().listFiles();
    for (File file : files == null ? new File[0] : files) {
      file.delete();
    }
    folder.toFile().delete();
  }

  // ---- what it names

  private static void namesEachCall(String page) {
    String calls = between(page, "### The calls", "\n### ");
    Set<String> face = new TreeSet<>();
    for (Method m : MiddleOfCourt.class.getDeclaredMethods()) {
      if ((m.getModifiers() & java.lang.reflect.Modifier.PUBLIC) != 0) {
        face.add(m.getName());
      }
    }
    Set<String> named = new TreeSet<>();
    Pattern.compile("`(\\w+)`").matcher(calls).results().forEach(r -> named.add(r.group(1)));
    is("README.md names the calls " + face + ", not " + named, named.equals(face));
  }

  private static void namesEachTest(String page) throws IOException {
    Set<String> files = new TreeSet<>();
    try (Stream<Path> all = Files.list(TESTS)) {
      all.map(p -> p.getFileName().toString()).filter(n -> n.endsWith(".java"))
          .forEach(n -> files.add(n.substring(0, n.length() - 5)));
    }
    Set<String> named = new TreeSet<>();
    int start = page.indexOf("## Tests");
    is("README.md has ## Tests", start >= 0);
    Pattern.compile("`([A-Z][a-z]\\w*)`").matcher(page.substring(Math.max(0, start))).results()
        .forEach(r -> named.add(r.group(1)));
    is("README.md names the files " + files + ", not " + named, named.equals(files));
    is("README.md's one test alone is there", page.contains("java -cp out TextsTest")
        && files.contains("TextsTest"));
    is(".ci/run is there", Files.isExecutable(Path.of(".ci/run")));
  }

  private static void namesEachRefusal(String page) {
    String rows = between(page, "### The refusals", "\n## ");
    String[] due = {
      "| " + MiddleOfCourt.NONE + " `NONE` |", "| " + MiddleOfCourt.BAD + " `BAD` |",
      "| " + MiddleOfCourt.STATE + " `STATE` |", "| " + MiddleOfCourt.FULL + " `FULL` |",
      "| -11 |", "| -12 |", "| -13 |", "| -14 |", "| -100 |", "| -100000 |", "| `NO` |"
    };
    for (String row : due) {
      is("README.md has the refusal " + row, rows.contains("\n" + row));
    }
  }
}
