import java.util.Random;

/** Long runs of calls on the class and on the plain model: the same answers, call by call. */
public final class AgainstPlainModelTest {
  private static final Due DUE = new Due();
  private static final int RUNS = 700;
  private static final int CALLS = 512;
  private static final int[] ODD_ONES = {
    -1, -2, -100, 5, 6, 7, 9, 10, 24, 25, 40, 41, 99, 100, 255, 256, 999, 1000, 65536,
    Integer.MAX_VALUE, Integer.MIN_VALUE
  };
  private static final String[] ATOMS = {
    "far", "warm", "legs", "quick", "number", "cell", "far", "quick", "0", "1", "2", "3", "8", "9",
    "20", "100", "499", "500", "9999"
  };
  private static final String[] PIECES = {
    "far", "warm", "or", "and", "not", "(", ")", ";", "+", "-", "*", "<", "=", "7", "12345", "flies",
    "steps", "slips", "fa", "A", "\t", "not", "-", "("
  };
  private static final String[] PLAIN_RULES = {
    "flies 8 + far * 2; steps 9 - quick; slips far * 2;",
    "flies 6 + far; steps 2 + (legs < 498) * 3; slips 7;",
    "flies 9 - warm + far * 2; steps 4 + (cell = 12) - (quick < 4); slips warm * 3;",
    "flies 4 + far * 4 - number; steps 3 + (legs < 490) * 4 - (cell < 10); slips 100 - legs;",
    "flies 10 - (legs < 496) * 4; steps 3 + (legs < 495) + (legs < 497); slips cell;"
  };

  private final Random random;
  private final MiddleOfCourt x = new MiddleOfCourt();
  private final PlainModel y = new PlainModel();
  private final int run;
  private int calls = 0;
  private int dear = 0;

  private AgainstPlainModelTest(int run) {
    this.run = run;
    this.random = new Random(run * 7919L + 5);
  }

  public static void main(String[] args) {
    for (int run = 0; run < RUNS && !DUE.hasWrong(); run++) {
      new AgainstPlainModelTest(run).go();
    }
    texts();
    DUE.end("AgainstPlainModelTest");
  }

  /** Texts alone, so that many faults are met. */
  private static void texts() {
    AgainstPlainModelTest t = new AgainstPlainModelTest(-1);
    for (int i = 0; i < 20000 && !DUE.hasWrong(); i++) {
      String line = t.anyText();
      MiddleOfCourt fresh = new MiddleOfCourt();
      PlainModel plain = new PlainModel();
      for (int k = 0; k < line.length(); k++) {
        DUE.is("feed", fresh.feed(line.charAt(k)), plain.feed(line.charAt(k)));
      }
      DUE.is("text [" + line + "]", fresh.text(), plain.text());
    }
  }

  private void go() {
    start();
    while (calls < CALLS && !DUE.hasWrong()) {
      step(random.nextInt(100));
    }
  }

  private void due(String call, long got, long want) {
    calls++;
    DUE.is("run " + run + ", call " + calls + ": " + call, got, want);
  }

  private int below(int n) {
    return random.nextInt(n);
  }

  /** A number from 0 on, now and then an odd one. */
  private int some(int n) {
    return below(40) == 0 ? ODD_ONES[below(ODD_ONES.length)] : below(n);
  }

  private void start() {
    int n = below(7);
    for (int i = 0; i < n; i++) {
      newStroke();
    }
    for (int i = below(8); i > 0; i--) {
      set();
    }
    for (int s = 0; s < 4; s++) {
      if (below(4) > 0) {
        boolean ofCells = below(4) == 0;
        sheet(s, below(ofCells ? 5 : 12), ofCells ? 25 : y.count(0));
      }
    }
    if (below(3) > 0) {
      feed(below(2) == 0 ? PLAIN_RULES[below(PLAIN_RULES.length)] : anyText());
      due("text", x.text(), y.text());
      force();
    }
  }

  private void newStroke() {
    int kind = some(6);
    int number = some(10);
    int aim = some(25);
    due("stroke " + kind + " " + number + " " + aim, x.stroke(kind, number, aim), y.stroke(kind, number, aim));
  }

  private void set() {
    int what = some(7);
    int of = what < 4 ? some(2) : some(6);
    int[] most = {25, 1000, 10, 26, 10, 25, 100};
    int v = some(what >= 0 && what < 7 ? most[what] : 5);
    if (what == 3) {
      v--;
    }
    if (what == 1 && below(2) == 0) {
      v = 490 + below(12);
    }
    if (what == 6 && below(2) == 0) {
      v = 15 + below(6);
    }
    due("set " + what + " " + of + " " + v, x.set(what, of, v), y.set(what, of, v));
  }

  private void force() {
    int t = below(10) == 0 ? some(6) : below(Math.max(1, y.count(2)));
    due("force " + t, x.force(t), y.force(t));
  }

  private void feed(String line) {
    for (int i = 0; i < line.length(); i++) {
      due("feed " + (int) line.charAt(i), x.feed(line.charAt(i)), y.feed(line.charAt(i)));
    }
  }

  private void sheet(int sheet, int n, int bound) {
    int sort = below(3);
    due("sheet " + sheet + " " + sort + " " + n, x.sheet(sheet, sort, n), y.sheet(sheet, sort, n));
    for (int i = 0; i < n; i++) {
      int v = below(Math.max(1, bound));
      v = below(30) == 0 ? v + 256 * below(300) : v;
      due("cell " + sheet + " " + i + " " + v, x.cell(sheet, i, v), y.cell(sheet, i, v));
    }
  }

  private void step(int which) {
    int s = some(4);
    if (which < 8) {
      set();
    } else if (which < 11) {
      newStroke();
    } else if (which < 20) {
      shots();
    } else if (which < 24) {
      sheet(below(4), below(10), y.count(0));
    } else if (which < 26) {
      sheet(below(4), below(5), 25);
    } else if (which < 46) {
      rallies(s);
    } else if (which < 58) {
      bests();
    } else if (which < 78) {
      seen(s);
    } else if (which < 82) {
      images();
    } else if (which < 84) {
      newText();
    } else {
      host(s);
    }
  }

  private void shots() {
    int p = some(2);
    int i = some(6);
    int what = some(5);
    due("shot " + p + " " + i + " " + what, x.shot(p, i, what), y.shot(p, i, what));
    int way = below(20) == 0 ? some(3000) : below(25) * 100 + below(25);
    due("needs " + p + " " + way, x.needs(p, way), y.needs(p, way));
    int told = some(7);
    due("told " + i + " " + told, x.told(i, told), y.told(i, told));
    due("told " + p + " " + told, x.told(p, told), y.told(p, told));
  }

  private void rallies(int s) {
    for (int what = 0; what < 7; what++) {
      due("rally " + s + " " + what, x.rally(s, what), y.rally(s, what));
    }
    due("likely " + s, x.likely(s), y.likely(s));
    due("inTheWay " + s, x.inTheWay(s), y.inTheWay(s));
    int what = some(7);
    due("rally " + s + " " + what, x.rally(s, what), y.rally(s, what));
    if (below(3) == 0) {
      due("play " + s, x.play(s), y.play(s));
    }
  }

  private void bests() {
    int p = some(2);
    int n = some(dear < 2 ? 6 : 4);
    int what = some(2);
    dear += n > 3 ? 1 : 0;
    due("best " + p + " " + n + " " + what, x.best(p, n, what), y.best(p, n, what));
    if (dear < 2) {
      dear++;
      due("sure " + p, x.sure(p), y.sure(p));
    }
    due("stand " + p + " " + what, x.stand(p, what), y.stand(p, what));
    due("tires " + p, x.tires(p), y.tires(p));
  }

  private void seen(int s) {
    int what = some(2);
    int t = some(4);
    if (below(2) == 0) {
      due("film " + t + " " + s, x.film(t, s), y.film(t, s));
    }
    due("balls " + s + " " + what, x.balls(s, what), y.balls(s, what));
    due("balls " + t + " " + what, x.balls(t, what), y.balls(t, what));
    int q = some(3);
    int who = below(20) == 0 ? some(3) : below(3) - 1;
    due("quicks " + s + " " + q + " " + who, x.quicks(s, q, who), y.quicks(s, q, who));
    int seed = below(2) == 0 ? random.nextInt() : below(100) - 50;
    due("drawn " + seed, x.drawn(seed), y.drawn(seed));
    int n = some(21);
    due("chance " + seed + " " + n + " " + what, x.chance(seed, n, what), y.chance(seed, n, what));
  }

  private void images() {
    if (below(2) == 0) {
      due("image", x.image(), y.image());
    } else {
      due("back", x.back(), y.back());
    }
    for (int what = -1; what < 6; what++) {
      due("count " + what, x.count(what), y.count(what));
    }
  }

  private void newText() {
    feed(below(3) == 0 ? PLAIN_RULES[below(PLAIN_RULES.length)] : anyText());
    due("text", x.text(), y.text());
    force();
  }

  private void host(int s) {
    int t = some(4);
    int i = some(12);
    int j = some(12);
    int n = some(7);
    int sort = some(3);
    int k = some(6);
    switch (below(5)) {
      case 0:
        due("sheet " + s + " " + (sort - 1) + " " + i, x.sheet(s, sort - 1, i), y.sheet(s, sort - 1, i));
        break;
      case 1:
        int v = some(26);
        due("cell " + s + " " + i + " " + v, x.cell(s, i, v), y.cell(s, i, v));
        break;
      case 2:
        due("copy " + s + " " + i + " " + t + " " + j + " " + n, x.copy(s, i, t, j, n), y.copy(s, i, t, j, n));
        break;
      case 3:
        due("strokes " + s + " " + sort + " " + j + " " + n, x.strokes(s, sort, j, n), y.strokes(s, sort, j, n));
        break;
      default:
        due("taken " + j + " " + k, x.taken(j, k), y.taken(j, k));
        break;
    }
  }

  // texts

  private String blank() {
    int n = below(8);
    return n == 0 ? "" : n == 1 ? "\n" : n == 2 ? "  " : " ";
  }

  private String expression(int depth) {
    int which = depth <= 0 ? 0 : below(12);
    switch (which) {
      case 3:
      case 4:
        return expression(depth - 1) + blank() + "+" + blank() + expression(depth - 1);
      case 5:
        return expression(depth - 1) + blank() + "-" + blank() + expression(depth - 1);
      case 6:
        return expression(depth - 1) + "*" + blank() + expression(depth - 1);
      case 7:
        return "(" + blank() + expression(depth - 1) + blank() + ")";
      case 8:
        return "-" + blank() + expression(depth - 1);
      case 9:
        return expression(depth - 1) + (below(2) == 0 ? "<" : " = ") + expression(depth - 1);
      case 10:
        return expression(depth - 1) + (below(2) == 0 ? " and " : " or ") + expression(depth - 1);
      case 11:
        return "not " + expression(depth - 1);
      default:
        return ATOMS[below(ATOMS.length)];
    }
  }

  private String anyText() {
    int depth = below(5);
    String line = "flies " + expression(depth) + blank() + ";" + blank() + "steps " + expression(depth) + ";slips "
        + expression(depth) + blank() + ";" + (below(4) == 0 ? blank() : "");
    if (below(3) == 0) {
      int at = below(line.length());
      int cut = Math.min(line.length(), at + below(4));
      line = line.substring(0, at) + (below(2) == 0 ? PIECES[below(PIECES.length)] : "") + line.substring(cut);
    }
    return line.substring(0, Math.min(line.length(), 200));
  }
}
