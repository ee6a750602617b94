import java.util.ArrayList;
import java.util.List;
import java.util.Map;

/** The document written a second time, in the plainest way: whole states, no pruning, no codes. */
final class PlainModel {
  private static final long NO = -4611686018427387904L;

  /** A state: who[p] = cell, legs, quick, home; warm; the rule. */
  static final class State {
    int[][] who = {{12, 500, 5, 12}, {12, 500, 5, 12}};
    int warm = 0;
    int rule = 0;

    State same() {
      State s = new State();
      s.who = new int[][] {who[0].clone(), who[1].clone()};
      s.warm = warm;
      s.rule = rule;
      return s;
    }
  }

  private State now = new State();
  private List<int[]> strokes = new ArrayList<>();
  private final List<List<List<String>>> texts = new ArrayList<>();
  private String tape = "";
  private final int[] sorts = {-1, -1, -1, -1};
  private final int[][] rows = new int[4][];
  private State keptState = null;
  private List<int[]> keptStrokes = null;

  PlainModel() {
    texts.add(new PlainText("flies 8 + far * 3 ; steps 9 - quick ; slips far * 2 ;").parts);
  }

  // physics

  private static int far(int a, int b) {
    int dx = a % 5 - b % 5;
    int dy = a / 5 - b / 5;
    dx = dx < 0 ? -dx : dx;
    dy = dy < 0 ? -dy : dy;
    return dx > dy ? dx : dy;
  }

  private static int mirror(int c) {
    return c / 5 * 5 + (4 - c % 5);
  }

  private static int comes(int[] stroke, int from) {
    int aim = stroke[2];
    switch (stroke[0]) {
      case 3:
        return aim < 20 ? aim + 5 : aim;
      case 4:
        return mirror(aim);
      case 5:
        return from % 5 < 2 ? mirror(aim) : aim;
      default:
        return aim;
    }
  }

  private static int spends(int[] stroke) {
    int[] by = {1, 1, 1 + stroke[1] / 2, 0, 1 + stroke[1] / 2, 3};
    return by[stroke[0]];
  }

  private int told(State s, int part, int p, int far, int number, int cell, int bound) {
    Map<String, Integer> names = Map.of("far", far, "warm", s.warm, "legs", s.who[p][1], "quick",
        s.who[p][2], "number", number, "cell", cell);
    int v = PlainText.worth(texts.get(s.rule).get(part), names);
    return v < 0 ? 0 : v > bound ? bound : v;
  }

  private int byStroke(State s, int part, int p, int[] stroke, int bound) {
    int c = comes(stroke, s.who[p][0]);
    return told(s, part, p, far(s.who[p][0], c), stroke[1], c, bound);
  }

  private int tenths(State s, int p, int[] stroke) {
    int v = byStroke(s, 0, p, stroke, 99);
    int n = stroke[1];
    int drop = s.warm < 20 ? v / 2 : v;
    int[] t = {v, v + n, drop, v + n + 10, drop + 3, v + n - 2};
    return t[stroke[0]] < 0 ? 0 : t[stroke[0]];
  }

  private int needs(State s, int p, int from, int to) {
    return told(s, 1, p, far(from, to), 0, from, 99) * far(from, to);
  }

  private static void less(int[] who, int by) {
    who[1] = who[1] < by ? 0 : who[1] - by;
  }

  private boolean strike(State s, int p, int[] stroke) {
    int[] me = s.who[p];
    int[] other = s.who[1 - p];
    int c = comes(stroke, me[0]);
    int t = tenths(s, p, stroke);
    less(me, spends(stroke));
    if (needs(s, 1 - p, other[0], c) > t) {
      return true;
    }
    less(other, far(other[0], c));
    other[0] = c;
    if (me[3] != -1 && needs(s, p, me[0], me[3]) <= t) {
      less(me, far(me[0], me[3]));
      me[0] = me[3];
    }
    s.warm = s.warm < 99 ? s.warm + 1 : 99;
    return false;
  }

  // players, strokes

  int set(int what, int of, int v) {
    int was = -100;
    int[] most = {24, 999, 9, 24, 9, 24, 99};
    if (what < 0 || what > 6 || v > most[what] || v < (what == 3 ? -1 : 0)) {
      return -100;
    }
    if (what == 6) {
      was = now.warm;
      now.warm = v;
    } else if (what < 4 && (of == 0 || of == 1)) {
      was = now.who[of][what];
      now.who[of][what] = v;
    } else if (what >= 4 && of >= 0 && of < strokes.size()) {
      was = strokes.get(of)[what - 3];
      strokes.get(of)[what - 3] = v;
    }
    return was;
  }

  int stroke(int kind, int number, int aim) {
    if (kind < 0 || kind > 5 || number < 0 || number > 9 || aim < 0 || aim > 24) {
      return -2;
    }
    if (strokes.size() == 6) {
      return -4;
    }
    strokes.add(new int[] {kind, number, aim});
    return strokes.size() - 1;
  }

  int told(int of, int what) {
    if (what >= 0 && what <= 3 && (of == 0 || of == 1)) {
      return now.who[of][what];
    }
    if (what >= 4 && what <= 6 && of >= 0 && of < strokes.size()) {
      return strokes.get(of)[what == 6 ? 0 : what - 3];
    }
    return -100;
  }

  int shot(int player, int stroke, int what) {
    if (player < 0 || player > 1 || stroke < 0 || stroke >= strokes.size() || what < 0 || what > 4) {
      return -2;
    }
    int[] with = strokes.get(stroke);
    int c = comes(with, now.who[player][0]);
    int[] answers = {c, tenths(now, player, with), byStroke(now, 2, player, with, 100), spends(with),
        needs(now, 1 - player, now.who[1 - player][0], c)};
    return answers[what];
  }

  int needs(int player, int way) {
    if (player < 0 || player > 1 || way < 0 || way / 100 > 24 || way % 100 > 24) {
      return -2;
    }
    return needs(now, player, way / 100, way % 100);
  }

  // texts

  int feed(int letter) {
    if (letter < 0 || letter > 255) {
      return -2;
    }
    if (tape.length() == 160) {
      return -4;
    }
    tape += (char) letter;
    return tape.length();
  }

  int text() {
    if (texts.size() == 6) {
      return -4;
    }
    PlainText read = new PlainText(tape);
    tape = "";
    if (read.fault >= 0) {
      return -100 - read.fault;
    }
    texts.add(read.parts);
    return texts.size() - 1;
  }

  int force(int text) {
    if (text < 0 || text >= texts.size()) {
      return -2;
    }
    int was = now.rule;
    now.rule = text;
    return was;
  }

  // rallies

  /** What a rally leaves: the state, who wins, the cells where balls came, how likely, who was in the way. */
  private static final class Played {
    State state;
    int winner = -1;
    final List<Integer> cells = new ArrayList<>();
    long likely = 1000000000L;
    int inTheWay = -1;
  }

  private static boolean over(int from, int to, int third) {
    int at = from;
    while (at != to) {
      int x = at % 5 + Integer.signum(to % 5 - at % 5);
      int y = at / 5 + Integer.signum(to / 5 - at / 5);
      at = 5 * y + x;
      if (at == third) {
        return true;
      }
    }
    return false;
  }

  private Played played(State from, int[] row) {
    Played r = new Played();
    r.state = from.same();
    for (int i = 0; i < row.length && r.winner < 0; i++) {
      int p = i % 2;
      int[] with = strokes.get(row[i]);
      int mine = r.state.who[p][0];
      int his = r.state.who[1 - p][0];
      int c = comes(with, mine);
      r.cells.add(c);
      r.likely = r.likely * (100 - byStroke(r.state, 2, p, with, 100)) / 100;
      if (strike(r.state, p, with)) {
        r.winner = p;
      } else if (r.inTheWay < 0 && over(his, c, mine)) {
        r.inTheWay = i;
      }
    }
    return r;
  }

  private static boolean noSheet(int sheet) {
    return sheet < 0 || sheet > 3;
  }

  private int refusal(int sheet) {
    if (noSheet(sheet)) {
      return -2;
    }
    if (rows[sheet] == null) {
      return -11;
    }
    for (int v : rows[sheet]) {
      if (v < 0 || v >= strokes.size()) {
        return -2;
      }
    }
    return 0;
  }

  int rally(int sheet, int what) {
    if (noSheet(sheet) || what < 0 || what > 6) {
      return -2;
    }
    if (refusal(sheet) != 0) {
      return refusal(sheet);
    }
    Played r = played(now, rows[sheet]);
    int[] answers = {r.winner, r.cells.size(), r.state.who[0][1], r.state.who[1][1], r.state.who[0][0],
        r.state.who[1][0], r.state.warm};
    return answers[what];
  }

  int play(int sheet) {
    if (refusal(sheet) != 0) {
      return refusal(sheet);
    }
    Played r = played(now, rows[sheet]);
    now = r.state;
    return r.winner;
  }

  long likely(int sheet) {
    return refusal(sheet) != 0 ? NO : played(now, rows[sheet]).likely;
  }

  // the best stroke

  private int value(State s, int p, int n) {
    if (n == 0 || strokes.isEmpty()) {
      return 0;
    }
    int most = -1;
    for (int[] with : strokes) {
      most = Math.max(most, valueBy(s, p, n, with));
    }
    return most;
  }

  private int valueBy(State s, int p, int n, int[] with) {
    State then = s.same();
    return strike(then, p, with) ? 1 : -value(then, 1 - p, n - 1);
  }

  int best(int player, int n, int what) {
    if (player < 0 || player > 1 || n < 0 || n > 5 || what < 0 || what > 1) {
      return -100;
    }
    int v = value(now, player, n);
    if (what == 0) {
      return v;
    }
    for (int i = 0; i < strokes.size() && n > 0; i++) {
      if (valueBy(now, player, n, strokes.get(i)) == v) {
        return i;
      }
    }
    return -1;
  }

  int sure(int player) {
    if (player < 0 || player > 1) {
      return -2;
    }
    return value(now, player, 1) == 1 ? 1 : value(now, player, 3) == 1 ? 3 : value(now, player, 5) == 1 ? 5 : -1;
  }

  int stand(int player, int what) {
    if (player < 0 || player > 1 || what < 0 || what > 1) {
      return -100000;
    }
    int where = -1;
    int least = 0;
    for (int c = 0; c < 25; c++) {
      List<Integer> late = new ArrayList<>();
      for (int[] with : strokes) {
        late.add(needs(now, player, c, comes(with, now.who[1 - player][0])) - tenths(now, 1 - player, with));
      }
      int bad = late.stream().mapToInt(i -> i).max().orElse(0);
      if (where < 0 || bad < least) {
        where = c;
        least = bad;
      }
    }
    return what == 0 ? where : least;
  }

  int tires(int player) {
    if (player < 0 || player > 1) {
      return -2;
    }
    int best = -1;
    int most = -1;
    for (int i = 0; i < strokes.size(); i++) {
      int run = far(now.who[1 - player][0], comes(strokes.get(i), now.who[player][0]));
      if (!strike(now.same(), player, strokes.get(i)) && run > most) {
        most = run;
        best = i;
      }
    }
    return best;
  }

  int inTheWay(int sheet) {
    return refusal(sheet) != 0 ? refusal(sheet) : played(now, rows[sheet]).inTheWay;
  }

  // balls that were seen

  private boolean seen(int[] row, int[] cells) {
    Played r = played(now, row);
    for (int i = 0; i < row.length; i++) {
      if (i >= r.cells.size() || r.cells.get(i) != cells[i]) {
        return false;
      }
    }
    return true;
  }

  int balls(int sheet, int what) {
    if (noSheet(sheet) || what < 0 || what > 1) {
      return -2;
    }
    if (rows[sheet] == null) {
      return -11;
    }
    int n = rows[sheet].length;
    if (n > 4) {
      return -2;
    }
    int all = 1;
    for (int i = 0; i < n; i++) {
      all *= strokes.size();
    }
    int count = 0;
    int first = -1;
    for (int k = 0; k < all; k++) {
      int[] row = new int[n];
      int rest = k;
      int digits = 0;
      for (int i = n - 1; i >= 0; i--) {
        row[i] = rest % strokes.size();
        rest /= strokes.size();
      }
      for (int v : row) {
        digits = digits * 10 + v + 1;
      }
      if (seen(row, rows[sheet])) {
        first = count == 0 ? digits : first;
        count++;
      }
    }
    return what == 0 ? count : first;
  }

  int quicks(int sheet, int what, int who) {
    if (noSheet(sheet) || what < 0 || what > 2 || who < -1 || who > 1) {
      return -2;
    }
    if (refusal(sheet) != 0) {
      return refusal(sheet);
    }
    int bits = 0;
    for (int i = 0; i < (what == 2 ? texts.size() : 10); i++) {
      State s = now.same();
      if (what == 2) {
        s.rule = i;
      } else {
        s.who[what][2] = i;
      }
      bits += played(s, rows[sheet]).winner == who ? 1 << i : 0;
    }
    return bits;
  }

  int film(int sheet, int rally) {
    if (noSheet(sheet) || noSheet(rally)) {
      return -2;
    }
    if (refusal(rally) != 0) {
      return refusal(rally);
    }
    List<Integer> cells = played(now, rows[rally]).cells;
    sorts[sheet] = 0;
    rows[sheet] = cells.stream().mapToInt(i -> i).toArray();
    return cells.size();
  }

  int drawn(int seed) {
    State s = now.same();
    int z = seed;
    for (int i = 0; i < 40 && !strokes.isEmpty(); i++) {
      z = z * 1103515245 + 12345;
      if (strike(s, i % 2, strokes.get((z >>> 9) % strokes.size()))) {
        return i % 2;
      }
    }
    return -1;
  }

  long chance(int seed, int n, int part) {
    if (n < 1 || n > 20 || part < 0 || part > 1) {
      return NO;
    }
    int a = 0;
    for (int i = 0; i < n; i++) {
      a += drawn(seed + i) == 0 ? 1 : 0;
    }
    int d = java.math.BigInteger.valueOf(a).gcd(java.math.BigInteger.valueOf(n)).intValue();
    return part == 0 ? a / d : n / d;
  }

  private static List<int[]> sameStrokes(List<int[]> of) {
    List<int[]> same = new ArrayList<>();
    for (int[] s : of) {
      same.add(s.clone());
    }
    return same;
  }

  int image() {
    keptState = now.same();
    keptStrokes = sameStrokes(strokes);
    return strokes.size();
  }

  int back() {
    if (keptState == null) {
      return -3;
    }
    now = keptState.same();
    strokes = sameStrokes(keptStrokes);
    return strokes.size();
  }

  int count(int what) {
    int[] answers = {strokes.size(), now.warm, texts.size(), tape.length(), now.rule};
    return what < 0 || what > 4 ? -2 : answers[what];
  }

  // the host

  int sheet(int sheet, int sort, int n) {
    if (noSheet(sheet) || sort < -1 || sort > 2 || sort >= 0 && n > 40) {
      return -2;
    }
    if (sort >= 0 && n < 0) {
      return -14;
    }
    sorts[sheet] = sort;
    rows[sheet] = sort < 0 ? null : new int[n];
    return 1;
  }

  int cell(int sheet, int i, int v) {
    if (noSheet(sheet)) {
      return -2;
    }
    if (rows[sheet] == null) {
      return -11;
    }
    if (i < 0 || i >= rows[sheet].length) {
      return -12;
    }
    rows[sheet][i] = sorts[sheet] == 0 ? v & 255 : sorts[sheet] == 1 ? v & 65535 : v;
    return 1;
  }

  int copy(int sheet, int i, int other, int j, int n) {
    if (noSheet(sheet) || noSheet(other)) {
      return -2;
    }
    if (rows[sheet] == null || rows[other] == null) {
      return -11;
    }
    if (sorts[sheet] != sorts[other]) {
      return -13;
    }
    if (i < 0 || j < 0 || n < 0 || (long) i + n > rows[sheet].length || (long) j + n > rows[other].length) {
      return -12;
    }
    int[] were = rows[sheet].clone();
    for (int k = 0; k < n; k++) {
      rows[other][j + k] = were[i + k];
    }
    return n;
  }

  int strokes(int sheet, int sort, int from, int n) {
    if (noSheet(sheet) || sort < 0 || sort > 2 || n < 0 || n > 6) {
      return -2;
    }
    int[] row = rows[sheet];
    if (row != null && sorts[sheet] != sort) {
      return -13;
    }
    if (row == null) {
      return -11;
    }
    int came = 0;
    for (long at = from; at < from + 3L * n; at += 3) {
      if (at < 0 || at + 2 >= row.length) {
        return -12;
      }
      came += stroke(row[(int) at], row[(int) at + 1], row[(int) at + 2]) >= 0 ? 1 : 0;
    }
    return came;
  }

  int taken(int stroke, int k) {
    if (k < 0 || k > 5) {
      return -2;
    }
    if (stroke < 0 || stroke >= strokes.size()) {
      return -11;
    }
    int[] above = {-1, 0, 0, 1, 2, 1};
    for (int kind = strokes.get(stroke)[0]; kind >= 0; kind = above[kind]) {
      if (kind == k) {
        return strokes.get(stroke)[1];
      }
    }
    return -13;
  }
}
