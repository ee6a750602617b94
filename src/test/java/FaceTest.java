import java.io.IOException;
import java.lang.reflect.Constructor;
import java.lang.reflect.Field;
import java.lang.reflect.Method;
import java.lang.reflect.Modifier;
import java.nio.file.Files;
import java.nio.file.Path;
import java.util.ArrayList;
import java.util.List;
import java.util.regex.Matcher;
import java.util.regex.Pattern;

/** The class against the document's public face, line by line, and against the headings it names. */
public final class FaceTest {
  private static final Due DUE = new Due();
  private static final Path DOCUMENT = Path.of("../shared/DOC.md");
  private static final Path SOURCE = Path.of("src/main/java/MiddleOfCourt.java");

  public static void main(String[] args) throws IOException {
    String document = Files.readString(DOCUMENT);
    String source = Files.readString(SOURCE);
    String face = firstOf(document, "(?s)```java\n(.*?)```");
    constants(face);
    methods(face, source);
    headings(document, source);
    isFromTheMiddle(document, source);
    DUE.end("FaceTest");
  }

  private static void is(String what, boolean right) {
    DUE.is(what, right ? 1 : 0, 1);
  }

  private static String firstOf(String text, String pattern) {
    Matcher m = Pattern.compile(pattern).matcher(text);
    boolean found = m.find();
    is("there is " + pattern, found);
    return found ? m.group(1) : "";
  }

  /** Each as the document writes it: its type, its value; and no other that is not private. */
  private static void constants(String face) {
    int told = 0;
    Matcher line = Pattern.compile("public static final (int|long) ([^;]*);").matcher(face);
    while (line.find()) {
      Matcher one = Pattern.compile("(\\w+) = (-?\\d+)").matcher(line.group(2));
      while (one.find()) {
        told++;
        constant(line.group(1), one.group(1), Long.parseLong(one.group(2)));
      }
    }
    int stand = 0;
    for (Field f : MiddleOfCourt.class.getDeclaredFields()) {
      stand += Modifier.isPrivate(f.getModifiers()) ? 0 : 1;
    }
    DUE.is("constants", stand, told);
  }

  private static void constant(String type, String name, long value) {
    try {
      Field f = MiddleOfCourt.class.getDeclaredField(name);
      is(name + " is public, static, final",
          f.getModifiers() == (Modifier.PUBLIC | Modifier.STATIC | Modifier.FINAL));
      is(name + " is a " + type, f.getType().getName().equals(type));
      DUE.is(name, f.getLong(null), value);
    } catch (ReflectiveOperationException e) {
      is(name + " stands", false);
    }
  }

  /** The same declarations, their arguments' names too, in the same order, and no other. */
  private static void methods(String face, String source) {
    List<String> due = declarations(face, "    ", ";");
    List<String> stand = declarations(source, "  ", " \\{");
    is("the document tells a constructor and 29 calls", due.size() == 30);
    is("the calls " + due + ", not " + stand, stand.equals(due));
    Constructor<?>[] made = MiddleOfCourt.class.getDeclaredConstructors();
    DUE.is("constructors", made.length, 1);
    int shown = made.length;
    for (Method m : MiddleOfCourt.class.getDeclaredMethods()) {
      shown += Modifier.isPrivate(m.getModifiers()) ? 0 : 1;
    }
    DUE.is("calls that are not private", shown, due.size());
    int kind = MiddleOfCourt.class.getModifiers();
    is("public and final", kind == (Modifier.PUBLIC | Modifier.FINAL));
    is("without a package", MiddleOfCourt.class.getPackageName().isEmpty());
    is("under nothing", MiddleOfCourt.class.getSuperclass() == Object.class);
    DUE.is("interfaces", MiddleOfCourt.class.getInterfaces().length, 0);
  }

  private static List<String> declarations(String text, String indent, String end) {
    List<String> all = new ArrayList<>();
    Matcher m = Pattern.compile("(?m)^" + indent + "public ((?:\\w+ )?\\w+\\([^)]*\\))" + end + "$").matcher(text);
    while (m.find()) {
      all.add(m.group(1));
    }
    return all;
  }

  /** "Ahead of the calls `a`, `b` the interface says: ---- c." */
  private static void headings(String document, String source) {
    List<String> due = new ArrayList<>();
    Matcher m = Pattern.compile("(?m)^Ahead of the calls (.*) the interface says: ---- (.*)\\.$").matcher(document);
    while (m.find()) {
      due.add("---- " + m.group(2));
      Matcher call = Pattern.compile("`(\\w+)`").matcher(m.group(1));
      while (call.find()) {
        due.add(call.group(1));
      }
    }
    List<String> stand = new ArrayList<>();
    Matcher line = Pattern.compile("(?m)^  (?:// (---- .*)|public \\w+ (\\w+)\\(.*)$").matcher(source);
    while (line.find()) {
      stand.add(line.group(1) != null ? line.group(1) : line.group(2));
    }
    is("the document tells 6 headings and 29 calls", due.size() == 35);
    is("headings " + due + ", not " + stand, stand.size() >= due.size()
        && stand.subList(0, due.size()).equals(due));
    for (int i = due.size(); i < stand.size(); i++) {
      is("no call behind the last heading: " + stand.get(i), stand.get(i).startsWith("----"));
    }
  }

  private static void isFromTheMiddle(String document, String source) {
    String first = firstOf(document, "## What it is\n\n(From the middle of the court: two players)");
    is("the class says what it is", source.contains(first));
  }
}
