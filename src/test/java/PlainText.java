import java.util.ArrayDeque;
import java.util.ArrayList;
import java.util.Deque;
import java.util.List;
import java.util.Map;
import java.util.Set;

/**
 * A text read by one pass over its tokens, with a stack of what is open and no recursion; and
 * reckoned by binding strength. Written so that it shares no way with the class it is held against.
 */
final class PlainText {
  private static final Set<String> NAMES = Set.of("far", "warm", "legs", "quick", "number", "cell");
  private static final Set<String> KEYS = Set.of("flies", "steps", "slips", "or", "and", "not");
  private static final String[] HEADS = {"flies", "steps", "slips"};

  final List<List<String>> parts = new ArrayList<>();
  final int fault;

  PlainText(String line) {
    fault = read(line);
  }

  private static boolean letter(char c) {
    return c >= 'a' && c <= 'z';
  }

  private static boolean digit(char c) {
    return c >= '0' && c <= '9';
  }

  /** The token at a place: "" if no token begins there or it is none that can be. */
  private static String token(String line, int at) {
    char c = line.charAt(at);
    int end = at + 1;
    if (letter(c)) {
      while (end < line.length() && letter(line.charAt(end))) {
        end++;
      }
      String word = line.substring(at, end);
      return NAMES.contains(word) || KEYS.contains(word) ? word : "";
    }
    if (digit(c)) {
      while (end < line.length() && digit(line.charAt(end))) {
        end++;
      }
      return end - at > 4 ? "" : line.substring(at, end);
    }
    return "();+-*<=".indexOf(c) >= 0 ? line.substring(at, end) : "";
  }

  private final Deque<String> open = new ArrayDeque<>();
  private boolean wantsOne;
  private boolean notMayStand;
  private final Deque<Boolean> compared = new ArrayDeque<>();

  private void startPart() {
    parts.add(new ArrayList<>());
    open.clear();
    compared.clear();
    compared.push(false);
    wantsOne = true;
    notMayStand = true;
  }

  private void oneEnds() {
    while (!open.isEmpty() && open.peek().equals("-")) {
      open.pop();
    }
    wantsOne = false;
  }

  private void notsEnd() {
    while (!open.isEmpty() && open.peek().equals("not")) {
      open.pop();
    }
  }

  /** Whether a token can stand where a ONE is wanted; if so it stands. */
  private boolean standsFirst(String t) {
    if (digit(t.charAt(0)) || NAMES.contains(t)) {
      oneEnds();
      return true;
    }
    if (t.equals("not") && !notMayStand || !Set.of("not", "-", "(").contains(t) || open.size() == 5) {
      return false;
    }
    open.push(t);
    notMayStand = !t.equals("-");
    if (t.equals("(")) {
      compared.push(false);
    }
    return true;
  }

  /** Whether a token can stand behind a ONE. */
  private boolean standsBehind(String t) {
    switch (t) {
      case "*":
      case "+":
      case "-":
        wantsOne = true;
        notMayStand = false;
        return true;
      case "<":
      case "=":
        if (compared.peek()) {
          return false;
        }
        compared.pop();
        compared.push(true);
        wantsOne = true;
        notMayStand = false;
        return true;
      case "or":
      case "and":
        notsEnd();
        compared.pop();
        compared.push(false);
        wantsOne = true;
        notMayStand = true;
        return true;
      case ")":
        notsEnd();
        if (open.isEmpty()) {
          return false;
        }
        open.pop();
        compared.pop();
        oneEnds();
        return true;
      default:
        return false;
    }
  }

  private int read(String line) {
    int at = 0;
    boolean inPart = false;
    while (at < line.length()) {
      if (line.charAt(at) == 32 || line.charAt(at) == 10) {
        at++;
        continue;
      }
      String t = token(line, at);
      if (t.isEmpty()) {
        return at;
      }
      if (!inPart) {
        if (parts.size() == 3 || !t.equals(HEADS[parts.size()])) {
          return at;
        }
        startPart();
        inPart = true;
      } else if (t.equals(";")) {
        notsEnd();
        if (wantsOne || !open.isEmpty()) {
          return at;
        }
        inPart = false;
      } else if (wantsOne ? standsFirst(t) : standsBehind(t)) {
        List<String> part = parts.get(parts.size() - 1);
        boolean sign = t.equals("-") && (part.isEmpty() || !endsOne(part.get(part.size() - 1)));
        part.add(sign ? "neg" : t);
      } else {
        return at;
      }
      at += t.length();
    }
    return parts.size() == 3 && !inPart ? -1 : line.length();
  }

  private static boolean endsOne(String t) {
    return digit(t.charAt(0)) || NAMES.contains(t) || t.equals(")");
  }

  private static int binds(String op) {
    switch (op) {
      case "neg":
        return 7;
      case "*":
        return 6;
      case "+":
      case "-":
        return 5;
      case "<":
      case "=":
        return 4;
      case "not":
        return 3;
      case "and":
        return 2;
      case "or":
        return 1;
      default:
        return 0;
    }
  }

  private static void reduce(Deque<Integer> values, String op) {
    int b = values.pop();
    if (op.equals("neg")) {
      values.push(-b);
      return;
    }
    if (op.equals("not")) {
      values.push(b == 0 ? 1 : 0);
      return;
    }
    int a = values.pop();
    int v;
    switch (op) {
      case "*":
        v = a * b;
        break;
      case "+":
        v = a + b;
        break;
      case "-":
        v = a - b;
        break;
      case "<":
        v = a < b ? 1 : 0;
        break;
      case "=":
        v = a == b ? 1 : 0;
        break;
      case "and":
        v = a != 0 && b != 0 ? 1 : 0;
        break;
      default:
        v = a != 0 || b != 0 ? 1 : 0;
        break;
    }
    values.push(v);
  }

  static int worth(List<String> part, Map<String, Integer> names) {
    Deque<Integer> values = new ArrayDeque<>();
    Deque<String> ops = new ArrayDeque<>();
    for (String t : part) {
      if (digit(t.charAt(0))) {
        values.push(Integer.parseInt(t));
      } else if (names.containsKey(t)) {
        values.push(names.get(t));
      } else if (t.equals("(") || t.equals("neg") || t.equals("not")) {
        ops.push(t);
      } else if (t.equals(")")) {
        while (!ops.peek().equals("(")) {
          reduce(values, ops.pop());
        }
        ops.pop();
      } else {
        while (!ops.isEmpty() && binds(ops.peek()) >= binds(t)) {
          reduce(values, ops.pop());
        }
        ops.push(t);
      }
    }
    while (!ops.isEmpty()) {
      reduce(values, ops.pop());
    }
    return values.pop();
  }
}
