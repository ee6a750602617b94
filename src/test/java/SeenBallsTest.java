/** Promises 18 to 25: balls read back, whose quick, film, strokes drawn, the image, counts. */
public final class SeenBallsTest {
  private static final Due DUE = new Due();

  public static void main(String[] args) {
    rows();
    rowsRefuse();
    quickOnes();
    rulesBy();
    quicksRefuse();
    films();
    filmsRefuse();
    draws();
    chances();
    images();
    counts();
    DUE.end("SeenBallsTest");
  }

  private static void rows() {
    MiddleOfCourt x = new MiddleOfCourt();
    Due.sheet(x, 0);
    DUE.is("none told: one row", x.balls(0, 0), 1);
    DUE.is("of no digits", x.balls(0, 1), 0);
    Due.sheet(x, 0, 12);
    DUE.is("no strokes", x.balls(0, 0), 0);
    DUE.is("no first", x.balls(0, 1), -1);
    x.stroke(0, 0, 0);
    x.stroke(1, 0, 0);
    x.stroke(2, 9, 0);
    x.stroke(5, 0, 0);
    Due.sheet(x, 0, 0);
    DUE.is("all four", x.balls(0, 0), 4);
    DUE.is("the first", x.balls(0, 1), 1);
    Due.sheet(x, 0, 4);
    DUE.is("none from the middle", x.balls(0, 0), 0);
    DUE.is("none is first", x.balls(0, 1), -1);
    Due.sheet(x, 0, 0, 4);
    DUE.is("across from the left; the drop wins ahead", x.balls(0, 0), 3);
    DUE.is("1 4", x.balls(0, 1), 14);
    x.set(6, 0, 20);
    DUE.is("a warm drop does not win", x.balls(0, 0), 4);
    x.set(6, 0, 0);
    Due.sheet(x, 0, 0, 0, 0, 0);
    DUE.is("first of four", x.balls(0, 1), 1111);
    Due.sheet(x, 0, 0, 25);
    DUE.is("25 is no cell", x.balls(0, 0), 0);
    Due.sheet(x, 0, -1);
    DUE.is("nor is -1", x.balls(0, 1), -1);
    Due.sheet(x, 0, 0);
    x.set(2, 1, 0);
    DUE.is("the last one may win", x.balls(0, 0), 4);
    Due.sheet(x, 0, 0, 0);
    DUE.is("not the one ahead", x.balls(0, 0), 0);
  }

  private static void rowsRefuse() {
    MiddleOfCourt x = new MiddleOfCourt();
    Due.sheet(x, 0, 12, 12, 12, 12, 12);
    DUE.is("above 4", x.balls(0, 0), -2);
    DUE.is("missing", x.balls(1, 1), -11);
    DUE.is("what ahead of missing", x.balls(1, 2), -2);
    DUE.is("what -1", x.balls(0, -1), -2);
    DUE.is("sheet -1", x.balls(-1, 0), -2);
    DUE.is("sheet 4", x.balls(4, 0), -2);
    Due.sheet(x, 0, 12, 12, 12, 12);
    DUE.is("4 are few enough", x.balls(0, 0), 0);
  }

  private static void quickOnes() {
    MiddleOfCourt x = new MiddleOfCourt();
    x.stroke(0, 0, 0);
    Due.sheet(x, 0, 0);
    DUE.is("14 tenths for two steps", x.quicks(0, 1, -1), 0x3fc);
    DUE.is("too slow", x.quicks(0, 1, 0), 0x003);
    DUE.is("1 never strikes", x.quicks(0, 1, 1), 0);
    DUE.is("his own quick does not matter", x.quicks(0, 0, -1), 0x3ff);
    x.set(2, 1, 0);
    DUE.is("the other one is slow", x.quicks(0, 0, 0), 0x3ff);
    DUE.is("were it another", x.quicks(0, 1, -1), 0x3fc);
    Due.sheet(x, 0);
    DUE.is("none told", x.quicks(0, 0, -1), 0x3ff);
    DUE.is("nobody wins then", x.quicks(0, 0, 0), 0);
    DUE.is("in thought", x.told(1, 2), 0);
  }

  private static void rulesBy() {
    MiddleOfCourt x = new MiddleOfCourt();
    x.stroke(0, 0, 0);
    Due.sheet(x, 0, 0);
    DUE.is("text 0", x.quicks(0, 2, -1), 1);
    Due.text(x, "flies 0; steps 1; slips 0;");
    Due.text(x, "flies 2; steps 1; slips 0;");
    Due.text(x, "flies 1; steps 1; slips 0;");
    DUE.is("nobody", x.quicks(0, 2, -1), 5);
    DUE.is("0", x.quicks(0, 2, 0), 10);
    DUE.is("1", x.quicks(0, 2, 1), 0);
    x.force(1);
    DUE.is("whatever the rule is", x.quicks(0, 2, -1), 5);
    DUE.is("the rule stays", x.count(4), 1);
  }

  private static void quicksRefuse() {
    MiddleOfCourt x = new MiddleOfCourt();
    Due.sheet(x, 0, 0);
    DUE.is("no stroke", x.quicks(0, 0, 0), -2);
    DUE.is("missing", x.quicks(1, 0, 0), -11);
    DUE.is("what ahead of missing", x.quicks(1, 3, 0), -2);
    DUE.is("who ahead of missing", x.quicks(1, 0, 2), -2);
    DUE.is("who -2", x.quicks(1, 0, -2), -2);
    DUE.is("what -1", x.quicks(1, -1, 0), -2);
    DUE.is("sheet 4", x.quicks(4, 0, 0), -2);
    DUE.is("sheet -1", x.quicks(-1, 0, 0), -2);
  }

  private static void films() {
    MiddleOfCourt x = new MiddleOfCourt();
    x.stroke(0, 0, 0);
    x.stroke(5, 0, 0);
    x.stroke(2, 0, 2);
    Due.sheet(x, 0, 0, 1, 0, 2, 0);
    x.sheet(1, 2, 9);
    DUE.is("till the drop wins", x.film(1, 0), 4);
    DUE.is("bytes", x.strokes(1, 0, 0, 0), 0);
    DUE.is("no ints", x.strokes(1, 2, 0, 0), -13);
    DUE.is("four of them", x.cell(1, 4, 0), -12);
    DUE.is("by which strokes", x.balls(1, 1), 1213);
    DUE.is("in thought", x.told(0, 1), 500);
    DUE.is("a missing one becomes", x.film(2, 0), 4);
    DUE.is("so too", x.balls(2, 1), 1213);
    DUE.is("a sheet of itself", x.film(0, 0), 4);
    DUE.is("so too", x.balls(0, 1), 1213);
    Due.sheet(x, 3);
    DUE.is("of none", x.film(1, 3), 0);
    DUE.is("a row of none", x.balls(1, 0), 1);
    DUE.is("of none", x.cell(1, 0, 0), -12);
  }

  private static void filmsRefuse() {
    MiddleOfCourt x = new MiddleOfCourt();
    x.stroke(0, 0, 0);
    Due.sheet(x, 0, 0, 1);
    Due.sheet(x, 1, 0);
    DUE.is("no stroke", x.film(1, 0), -2);
    DUE.is("missing", x.film(1, 2), -11);
    DUE.is("4", x.film(4, 1), -2);
    DUE.is("-1", x.film(-1, 1), -2);
    DUE.is("of 4", x.film(1, 4), -2);
    DUE.is("of -1", x.film(1, -1), -2);
    DUE.is("4 ahead of missing", x.film(4, 2), -2);
    DUE.is("the sheet stays", x.rally(1, 1), 1);
    DUE.is("of ints", x.strokes(1, 2, 0, 0), 0);
    DUE.is("a missing one stays", x.film(3, 0), -2);
    DUE.is("missing", x.rally(3, 0), -11);
  }

  private static void draws() {
    MiddleOfCourt x = new MiddleOfCourt();
    DUE.is("no strokes", x.drawn(7), -1);
    x.stroke(0, 0, 12);
    DUE.is("nobody wins in 40", x.drawn(7), -1);
    x.stroke(2, 0, 0);
    for (int seed = -50; seed < 50; seed++) {
      int z = seed;
      int striker = 0;
      int want = -1;
      for (int i = 0; i < 40 && want < 0; i++) {
        z = z * 1103515245 + 12345;
        if ((z >>> 9) % 2 == 1) {
          want = striker;
        }
        striker = 1 - striker;
      }
      DUE.is("who drops first, seed " + seed, x.drawn(seed), want);
    }
    DUE.is("in thought", x.count(1), 0);
    Due.rule(x, "flies 99; steps warm = 38; slips 0;");
    x.set(4, 1, 0);
    x.set(5, 1, 12);
    x.set(3, 0, -1);
    x.set(3, 1, -1);
    DUE.is("all reach it", x.drawn(7), -1);
    fortyAtMost();
  }

  /** The ball flies 0 tenths from some warmth on: the stroke behind that one wins. */
  private static void fortyAtMost() {
    MiddleOfCourt x = new MiddleOfCourt();
    x.stroke(0, 0, 0);
    x.set(0, 1, 0);
    x.set(3, 0, -1);
    x.set(3, 1, -1);
    Due.rule(x, "flies (warm < 39) * 9; steps 1; slips 0;");
    Due.rule(x, "flies (warm < 39) * 9; steps (legs < 3) * 5; slips 0;");
    x.set(1, 0, 999);
    x.set(1, 1, 999);
    DUE.is("nobody goes", x.drawn(0), -1);
    Due.rule(x, "flies 5; steps (38 < warm) * 9; slips 0;");
    DUE.is("they are where it comes", x.drawn(0), -1);
    x.set(3, 0, 24);
    x.set(3, 1, 24);
    DUE.is("the 40th wins", x.drawn(0), 1);
    Due.rule(x, "flies 5; steps (39 < warm) * 9; slips 0;");
    DUE.is("a 41st is not struck", x.drawn(0), -1);
  }

  private static void chances() {
    MiddleOfCourt x = new MiddleOfCourt();
    DUE.is("0 of 20, above", x.chance(0, 20, 0), 0);
    DUE.is("below", x.chance(0, 20, 1), 1);
    int[] seeds = {0, -5, Integer.MAX_VALUE - 3, 12345678, Integer.MIN_VALUE};
    for (int seed : seeds) {
      x = new MiddleOfCourt();
      x.stroke(0, 0, 12);
      x.stroke(2, 0, 0);
      for (int n = 1; n <= 20; n++) {
        int won = 0;
        for (int i = 0; i < n; i++) {
          won += x.drawn(seed + i) == 0 ? 1 : 0;
        }
        int a = n;
        int b = won;
        while (b != 0) {
          int rest = a % b;
          a = b;
          b = rest;
        }
        DUE.is("above", x.chance(seed, n, 0), won / a);
        DUE.is("below", x.chance(seed, n, 1), n / a);
      }
    }
    DUE.is("n 0", x.chance(0, 0, 0), MiddleOfCourt.NO);
    DUE.is("n 21", x.chance(0, 21, 0), MiddleOfCourt.NO);
    DUE.is("n -1", x.chance(0, -1, 1), MiddleOfCourt.NO);
    DUE.is("part 2", x.chance(0, 1, 2), MiddleOfCourt.NO);
    DUE.is("part -1", x.chance(0, 1, -1), MiddleOfCourt.NO);
    x.set(2, 1, 0);
    x.set(5, 0, 0);
    DUE.is("always", x.chance(0, 20, 0), 1);
    DUE.is("of one", x.chance(0, 20, 1), 1);
  }

  private static void images() {
    MiddleOfCourt x = new MiddleOfCourt();
    DUE.is("no image", x.back(), -3);
    DUE.is("an image of no strokes", x.image(), 0);
    x.stroke(0, 1, 2);
    DUE.is("back to none", x.back(), 0);
    DUE.is("none", x.count(0), 0);
    x.stroke(0, 1, 2);
    x.stroke(3, 4, 5);
    Due.text(x, "flies 9; steps 9; slips 9;");
    x.force(1);
    x.set(0, 0, 7);
    x.set(3, 1, -1);
    x.set(6, 0, 8);
    DUE.is("image", x.image(), 2);
    for (int p = 0; p < 2; p++) {
      for (int what = 0; what < 4; what++) {
        x.set(what, p, 9);
      }
    }
    x.set(6, 0, 50);
    x.set(4, 0, 9);
    x.set(5, 0, 9);
    x.set(4, 1, 8);
    x.set(5, 1, 8);
    x.stroke(5, 0, 0);
    x.force(0);
    Due.text(x, "flies 8; steps 8; slips 8;");
    Due.feed(x, "ab");
    Due.sheet(x, 0, 0, 0, 0);
    DUE.is("back", x.back(), 2);
    int[][] want = {{7, 500, 5, 12}, {12, 500, 5, -1}};
    for (int p = 0; p < 2; p++) {
      for (int what = 0; what < 4; what++) {
        DUE.is("told " + p + " " + what, x.told(p, what), want[p][what]);
      }
    }
    DUE.is("warm", x.count(1), 8);
    DUE.is("number", x.told(0, 4), 1);
    DUE.is("aim", x.told(0, 5), 2);
    DUE.is("number", x.told(1, 4), 4);
    DUE.is("aim", x.told(1, 5), 5);
    DUE.is("what came since is gone", x.told(2, 6), -100);
    DUE.is("the rule", x.count(4), 1);
    DUE.is("texts stay", x.count(2), 3);
    DUE.is("the tape stays", x.count(3), 2);
    DUE.is("sheets stay", x.cell(0, 2, 1), 1);
    DUE.is("as long as they are", x.cell(0, 3, 1), -12);
    DUE.is("another comes there", x.stroke(4, 6, 7), 2);
    DUE.is("of its own kind", x.told(2, 6), 4);
    x.set(4, 2, 1);
    DUE.is("back again", x.back(), 2);
    DUE.is("a new image", x.image(), 2);
    x.stroke(4, 6, 7);
    DUE.is("a newer one", x.image(), 3);
    x.set(4, 2, 1);
    DUE.is("back to the newest", x.back(), 3);
    DUE.is("as in that", x.told(2, 4), 6);
  }

  private static void counts() {
    MiddleOfCourt x = new MiddleOfCourt();
    DUE.is("-1", x.count(-1), -2);
    DUE.is("5", x.count(5), -2);
    x.stroke(0, 0, 0);
    x.set(6, 0, 9);
    Due.rule(x, "flies 9; steps 9; slips 9;");
    x.feed(0);
    DUE.is("strokes", x.count(0), 1);
    DUE.is("warm", x.count(1), 9);
    DUE.is("texts", x.count(2), 2);
    DUE.is("tape", x.count(3), 1);
    DUE.is("rule", x.count(4), 1);
  }
}
