import java.io.IOException;
import java.lang.reflect.Field;
import java.lang.reflect.Method;
import java.lang.reflect.Modifier;
import java.nio.file.Files;
import java.nio.file.Path;
import java.util.List;
import java.util.Set;
import java.util.TreeSet;
import java.util.regex.Matcher;
import java.util.regex.Pattern;

/** The rules of LANGUAGE.md that the class and its source show. Run from the project's folder. */
public final class LanguageTest {
  private static final Due DUE = new Due();
  private static final Path SOURCE = Path.of("src/main/java/MiddleOfCourt.java");
  private static final Set<String> FACE = Set.of(
      "int set(int,int,int)", "int stroke(int,int,int)", "int told(int,int)", "int shot(int,int,int)",
      "int needs(int,int)", "int feed(int)", "int text()", "int force(int)", "int rally(int,int)",
      "int play(int)", "long likely(int)", "int best(int,int,int)", "int sure(int)", "int stand(int,int)",
      "int tires(int)", "int inTheWay(int)", "int balls(int,int)", "int quicks(int,int,int)",
      "int film(int,int)", "int drawn(int)", "long chance(int,int,int)", "int image()", "int back()",
      "int count(int)", "int sheet(int,int,int)", "int cell(int,int,int)",
      "int copy(int,int,int,int,int)", "int strokes(int,int,int,int)", "int taken(int,int)");

  public static void main(String[] args) throws IOException {
    face();
    constants();
    insides();
    words();
    DUE.end("LanguageTest");
  }

  private static void is(String rule, boolean right) {
    DUE.is(rule, right ? 1 : 0, 1);
  }

  private static String told(Method m) {
    StringBuilder line = new StringBuilder(m.getReturnType() + " " + m.getName() + "(");
    for (Class<?> type : m.getParameterTypes()) {
      line.append(line.charAt(line.length() - 1) == '(' ? "" : ",").append(type);
    }
    return line + ")";
  }

  private static void face() {
    Set<String> shown = new TreeSet<>();
    Set<String> names = new TreeSet<>();
    for (Method m : MiddleOfCourt.class.getDeclaredMethods()) {
      if (!Modifier.isPrivate(m.getModifiers())) {
        is("public, not static: " + m, m.getModifiers() == Modifier.PUBLIC);
        shown.add(told(m));
        names.add(m.getName());
      }
    }
    is("the face " + shown, shown.equals(FACE));
    for (Class<?> c : all()) {
      for (Method m : c.getDeclaredMethods()) {
        boolean shares = names.contains(m.getName()) && !FACE.contains(told(m));
        is("1: no method inside bears a public one's name: " + m, !shares);
        is("11: parameters of " + m, m.getParameterCount() <= 7);
      }
    }
    is("one public constructor", MiddleOfCourt.class.getConstructors().length == 1);
    is("no other", MiddleOfCourt.class.getDeclaredConstructors().length == 1);
    is("public and final", MiddleOfCourt.class.getModifiers() == (Modifier.PUBLIC | Modifier.FINAL));
  }

  private static void constants() {
    DUE.is("NONE", MiddleOfCourt.NONE, -1);
    DUE.is("BAD", MiddleOfCourt.BAD, -2);
    DUE.is("STATE", MiddleOfCourt.STATE, -3);
    DUE.is("FULL", MiddleOfCourt.FULL, -4);
    DUE.is("NO", MiddleOfCourt.NO, -4611686018427387904L);
    for (Field f : MiddleOfCourt.class.getDeclaredFields()) {
      boolean constant = Set.of("NONE", "BAD", "STATE", "FULL", "NO").contains(f.getName());
      int want = constant ? Modifier.PUBLIC | Modifier.STATIC | Modifier.FINAL : Modifier.PRIVATE;
      int which = constant ? -1 : Modifier.PRIVATE | Modifier.PUBLIC | Modifier.PROTECTED;
      is("face of " + f, (f.getModifiers() & which) == want);
    }
  }

  private static List<Class<?>> all() {
    List<Class<?>> classes = new java.util.ArrayList<>(List.of(MiddleOfCourt.class.getDeclaredClasses()));
    classes.add(MiddleOfCourt.class);
    return classes;
  }

  private static void insides() {
    is("11: some twelve classes", all().size() <= 12);
    for (Class<?> c : all()) {
      is("2: static, at the first level: " + c, c == MiddleOfCourt.class
          || Modifier.isStatic(c.getModifiers()) && c.getDeclaredClasses().length == 0);
      int fields = 0;
      for (Field f : c.getDeclaredFields()) {
        if (Modifier.isStatic(f.getModifiers())) {
          is("5: a constant: " + f, Modifier.isFinal(f.getModifiers())
              && (f.getType().isPrimitive() || f.getType() == String.class));
        } else {
          fields++;
        }
      }
      is("11: some twenty fields: " + c, fields <= 20);
    }
  }

  private static String withoutRemarks(String source) {
    return source.replaceAll("(?s)/\\*.*?\\*/", "").replaceAll("//[^\n]*", "");
  }

  private static void words() throws IOException {
    String source = Files.readString(SOURCE);
    String code = withoutRemarks(source);
    String bare = code.replaceAll("\"[^\"\n]*\"", "\"\"");
    String[] forbidden = {
      "throw", "throws", "try", "catch", "finally", "synchronized", "assert", "import", "package",
      "float", "double", "Object", "System\\.(?!arraycopy)", "\\w+Exact", "equals", "hashCode",
      "toString", "Random", "Thread", "var", "yield", "record", "protected"
    };
    for (String word : forbidden) {
      Matcher m = Pattern.compile("\\b" + word + "\\b").matcher(bare);
      is("without " + word, !m.find());
    }
    for (String sign : new String[] {"->", "::", "@", "...", "\" +", "+ \""}) {
      is("without " + sign, !bare.contains(sign));
    }
    is("signs 1 to 127", source.chars().allMatch(c -> c > 0 && c < 128));
    Matcher calls = Pattern.compile("\\b(Math|Integer|Long|System|Arrays|String|StringBuilder)\\.(\\w+)").matcher(bare);
    while (calls.find()) {
      is("4: " + calls.group(), Set.of("max", "min", "abs", "compare", "arraycopy").contains(calls.group(2)));
    }
    methodsAreShort(source);
  }

  private static void methodsAreShort(String source) {
    String[] lines = source.split("\n");
    for (int i = 0; i < lines.length; i++) {
      Matcher head = Pattern.compile("^( +)[a-zA-Z][\\w \\[\\]]*\\([^;]*\\) \\{$").matcher(lines[i]);
      if (head.find()) {
        int end = i;
        while (!lines[end].equals(head.group(1) + "}")) {
          end++;
        }
        is("11: short: " + lines[i], end - i <= 60);
      }
    }
  }
}
