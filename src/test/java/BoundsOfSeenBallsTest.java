import java.math.BigInteger;

/** Promises 18 to 25 at their bounds: how many balls, which bits, how many draws, what an image keeps. */
public final class BoundsOfSeenBallsTest {
  private static final Due DUE = new Due();
  private static final int LEAST = Integer.MIN_VALUE, MOST = Integer.MAX_VALUE;
  private static final int PLAIN = 0, DROP = 2;

  public static void main(String[] args) {
    promise18Refused();
    promise18NoneToFour();
    promise18Rows();
    promise18NoCell();
    promise18FirstAsDigits();
    promise18WinsAtTheLast();
    promise18ByTurns();
    promise19Refused();
    promise19QuickBits();
    promise19HisAlone();
    promise19TextBits();
    promise19WhoWins();
    promise19InThought();
    promise20Refused();
    promise20NoneToForty();
    promise20TillOneWins();
    promise20Itself();
    promise21None();
    promise21FortyAtMost();
    promise21Draws();
    promise22No();
    promise22LowestTerms();
    promise22SeedWraps();
    promise23And24Strokes();
    promise23NothingElse();
    promise24State();
    promise24AllThatItKeeps();
    promise24AgainAndAgain();
    promise24NothingElse();
    promise25Bad();
    promise25Bounds();
    DUE.end("BoundsOfSeenBallsTest");
  }

  /** Everybody gets everywhere, if QUICK is not 0; with QUICK 0 nobody gets anywhere. */
  private static MiddleOfCourt quickOrNot() {
    MiddleOfCourt x = new MiddleOfCourt();
    Due.rule(x, "flies 50;steps (quick = 0) * 99;slips 0;");
    return x;
  }

  private static void balls(MiddleOfCourt x, int sheet, int rows, int first) {
    DUE.is("balls(" + sheet + ", 0)", x.balls(sheet, 0), rows);
    DUE.is("balls(" + sheet + ", 1)", x.balls(sheet, 1), first);
  }

  // ---- promise 18

  private static void promise18Refused() {
    DUE.promise(18, "BAD: SHEET, what; -11; BAD: above 4");
    MiddleOfCourt x = quickOrNot();
    x.stroke(PLAIN, 0, 12);
    for (int sheet : new int[] {-1, 4, LEAST, MOST}) {
      DUE.is("balls(" + sheet + ", 0)", x.balls(sheet, 0), -2);
    }
    for (int s = 0; s < 4; s++) {
      DUE.is("missing", x.balls(s, 0), -11);
      DUE.is("missing", x.balls(s, 1), -11);
      for (int what : new int[] {-1, 2, LEAST, MOST}) {
        DUE.is("what " + what + " ahead of missing", x.balls(s, what), -2);
      }
    }
    Due.sheet(x, 3, 12);
    balls(x, 3, 1, 1);
    for (int what : new int[] {-1, 2, LEAST, MOST}) {
      DUE.is("what " + what, x.balls(3, what), -2);
    }
    for (int n = 5; n <= 40; n++) {
      x.sheet(0, n % 3, n);
      DUE.is(n + " are above 4", x.balls(0, 0), -2);
      DUE.is(n + " are above 4", x.balls(0, 1), -2);
    }
  }

  private static void promise18NoneToFour() {
    DUE.promise(18, "CELLS (4 at most): the first (1; NONE; 0: it tells none)");
    MiddleOfCourt x = quickOrNot();
    Due.sheet(x, 0);
    balls(x, 0, 1, 0);
    for (int n = 1; n <= 4; n++) {
      x.sheet(0, 0, n);
      balls(x, 0, 0, -1);
    }
    x.stroke(PLAIN, 0, 0);
    int[] first = {0, 1, 11, 111, 1111};
    for (int n = 0; n <= 4; n++) {
      for (int sort = 0; sort < 3; sort++) {
        x.sheet(0, sort, n);
        balls(x, 0, 1, first[n]);
      }
    }
  }

  private static void promise18Rows() {
    DUE.promise(18, "how many rows of STROKES there are");
    MiddleOfCourt x = quickOrNot();
    int power = 1;
    for (int m = 1; m <= 6; m++) {
      x.stroke(PLAIN, 0, 12);
      int rows = 1;
      for (int n = 0; n <= 4; n++) {
        x.sheet(0, 0, n);
        for (int i = 0; i < n; i++) {
          x.cell(0, i, 12);
        }
        DUE.is(m + " STROKES, " + n + " CELLS", x.balls(0, 0), rows);
        rows *= m;
      }
      power = rows / m;
    }
    DUE.is("the most", power, 1296);
  }

  private static void promise18NoCell() {
    DUE.promise(18, "to which balls came: to what is no CELL none comes");
    MiddleOfCourt x = quickOrNot();
    for (int i = 0; i < 6; i++) {
      x.stroke(i, 0, 12);
    }
    for (int odd : new int[] {-1, 25, 100, LEAST, MOST}) {
      Due.sheet(x, 0, odd);
      balls(x, 0, 0, -1);
      Due.sheet(x, 0, 12, 12, 12, odd);
      balls(x, 0, 0, -1);
    }
    x.sheet(0, 0, 1);
    x.cell(0, 0, 256 + 12);
    balls(x, 0, 5, 1);
    x.set(5, 0, 24);
    x.set(5, 1, 0);
    Due.sheet(x, 0, 24);
    balls(x, 0, 1, 1);
    Due.sheet(x, 0, 0);
    balls(x, 0, 1, 2);
  }

  private static void promise18FirstAsDigits() {
    DUE.promise(18, "the first, as digits (1 more than each)");
    MiddleOfCourt x = quickOrNot();
    for (int i = 0; i < 6; i++) {
      x.stroke(PLAIN, 0, i);
    }
    for (int i = 0; i < 6; i++) {
      Due.sheet(x, 0, i);
      balls(x, 0, 1, i + 1);
      Due.sheet(x, 0, i, 5 - i);
      balls(x, 0, 1, 10 * (i + 1) + 6 - i);
      Due.sheet(x, 0, i, i, i, i);
      balls(x, 0, 1, 1111 * (i + 1));
    }
    Due.sheet(x, 0, 5, 0, 4, 1);
    balls(x, 0, 1, 6152);
    for (int i = 0; i < 6; i++) {
      x.set(5, i, i / 2);
    }
    Due.sheet(x, 0, 2, 1, 0, 2);
    balls(x, 0, 16, 5315);
  }

  private static void promise18WinsAtTheLast() {
    DUE.promise(18, "nobody WINNING ahead of the last");
    MiddleOfCourt x = quickOrNot();
    x.stroke(PLAIN, 0, 0);
    x.set(2, 1, 0);
    Due.sheet(x, 0, 0);
    balls(x, 0, 1, 1);
    for (int n = 2; n <= 4; n++) {
      x.sheet(0, 0, n);
      balls(x, 0, 0, -1);
    }
    x.set(2, 1, 5);
    x.set(2, 0, 0);
    x.set(0, 1, 24);
    x.sheet(0, 0, 2);
    balls(x, 0, 1, 11);
    x.sheet(0, 0, 3);
    balls(x, 0, 0, -1);
    x.stroke(PLAIN, 0, 12);
    Due.sheet(x, 0, 0, 12, 0, 12);
    balls(x, 0, 1, 1212);
  }

  private static void promise18ByTurns() {
    DUE.promise(18, "from PLAYER 0 on, one behind the other: where a CROSS comes goes by who strikes it");
    MiddleOfCourt x = quickOrNot();
    x.stroke(5, 0, 4);
    x.set(0, 0, 11);
    x.set(3, 1, 13);
    Due.sheet(x, 0, 0);
    balls(x, 0, 1, 1);
    Due.sheet(x, 0, 0, 0, 0, 0);
    balls(x, 0, 1, 1111);
    for (int at = 0; at < 4; at++) {
      Due.sheet(x, 0, 0, 0, 0, 0);
      x.cell(0, at, 4);
      balls(x, 0, 0, -1);
    }
    x.set(0, 0, 12);
    Due.sheet(x, 0, 4, 4, 4, 4);
    balls(x, 0, 1, 1111);
  }

  // ---- promise 19

  private static void promise19Refused() {
    DUE.promise(19, "BAD: SHEET, what, who (NONE, 0, 1); -11; BAD: as of rally()");
    MiddleOfCourt x = quickOrNot();
    for (int sheet : new int[] {-1, 4, LEAST, MOST}) {
      DUE.is("quicks(" + sheet + ", 0, 0)", x.quicks(sheet, 0, 0), -2);
    }
    for (int s = 0; s < 4; s++) {
      for (int what = 0; what <= 2; what++) {
        for (int who = -1; who <= 1; who++) {
          DUE.is("missing", x.quicks(s, what, who), -11);
        }
      }
    }
    for (int odd : new int[] {-1, 3, LEAST, MOST}) {
      DUE.is("what " + odd + " ahead of missing", x.quicks(0, odd, 0), -2);
    }
    for (int odd : new int[] {-2, 2, LEAST, MOST}) {
      for (int what = 0; what <= 2; what++) {
        DUE.is("who " + odd + " ahead of missing", x.quicks(0, what, odd), -2);
      }
    }
    x.stroke(PLAIN, 0, 12);
    Due.sheet(x, 3, 0, 0, 0);
    DUE.is("SHEET 3", x.quicks(3, 0, -1), 0x3ff);
    DUE.is("who 2", x.quicks(3, 0, 2), -2);
    DUE.is("who -2", x.quicks(3, 0, -2), -2);
    DUE.is("what 3", x.quicks(3, 3, 0), -2);
    for (int odd : new int[] {-1, 1, LEAST, MOST}) {
      x.cell(3, 2, odd);
      for (int what = 0; what <= 2; what++) {
        DUE.is("its last tells " + odd, x.quicks(3, what, 0), -2);
      }
    }
  }

  private static void promise19QuickBits() {
    DUE.promise(19, "QUICK (bits 0 .. 9) by which, were it his, it would be so");
    for (int quick = 0; quick <= 9; quick++) {
      MiddleOfCourt x = new MiddleOfCourt();
      x.stroke(PLAIN, 0, 0);
      Due.rule(x, "flies 0;steps quick = " + quick + ";slips 0;");
      Due.sheet(x, 0, 0);
      x.set(2, 0, 9 - quick);
      DUE.is("of PLAYER 1, only by QUICK " + quick, x.quicks(0, 1, 0), 1 << quick);
      DUE.is("by all others nobody", x.quicks(0, 1, -1), 0x3ff - (1 << quick));
      DUE.is("1 never strikes", x.quicks(0, 1, 1), 0);
      Due.sheet(x, 0, 0, 0);
      x.set(0, 1, 0);
      x.set(3, 0, -1);
      DUE.is("of PLAYER 0, only by QUICK " + quick, x.quicks(0, 0, 1), 1 << quick);
      DUE.is("by all others nobody", x.quicks(0, 0, -1), 0x3ff - (1 << quick));
    }
    MiddleOfCourt x = new MiddleOfCourt();
    x.sheet(0, 0, 0);
    DUE.is("a RALLY of none: by each", x.quicks(0, 0, -1), 0x3ff);
    DUE.is("by none", x.quicks(0, 1, 0), 0);
  }

  /** A step of PLAYER 0 takes his QUICK, one of PLAYER 1 his; a ball flies 5 tenths, one goes 1 FAR. */
  private static void promise19HisAlone() {
    DUE.promise(19, "QUICK by which, were it his: the other one's is as it is");
    for (int other = 0; other <= 9; other++) {
      MiddleOfCourt x = Due.homeless();
      x.stroke(PLAIN, 0, 11);
      x.stroke(PLAIN, 0, 13);
      Due.rule(x, "flies 5;steps quick;slips 0;");
      Due.sheet(x, 0, 0, 1);
      x.set(2, 1, other);
      DUE.is("of 0, 1 WINS", x.quicks(0, 0, 1), other <= 5 ? 0x3c0 : 0);
      DUE.is("of 0, nobody", x.quicks(0, 0, -1), other <= 5 ? 0x03f : 0);
      DUE.is("of 0, 0 WINS", x.quicks(0, 0, 0), other <= 5 ? 0 : 0x3ff);
      x.set(2, 0, other);
      DUE.is("of 1, 0 WINS", x.quicks(0, 1, 0), 0x3c0);
      DUE.is("of 1, 1 WINS", x.quicks(0, 1, 1), other <= 5 ? 0 : 0x03f);
      DUE.is("of 1, nobody", x.quicks(0, 1, -1), other <= 5 ? 0x03f : 0);
    }
  }

  private static void promise19TextBits() {
    DUE.promise(19, "TEXTS (bits), were they THE RULE, by which");
    MiddleOfCourt x = new MiddleOfCourt();
    x.stroke(PLAIN, 0, 0);
    Due.sheet(x, 0, 0);
    DUE.is("TEXT 0 alone", x.quicks(0, 2, -1), 1);
    DUE.is("TEXT 0 alone", x.quicks(0, 2, 0), 0);
    int nobody = 1;
    for (int i = 1; i <= 5; i++) {
      Due.text(x, i % 2 == 1 ? "flies 0;steps 1;slips 0;" : "flies 2;steps 1;slips 0;");
      nobody += i % 2 == 0 ? 1 << i : 0;
      DUE.is(i + 1 + " TEXTS: nobody", x.quicks(0, 2, -1), nobody);
      DUE.is(i + 1 + " TEXTS: 0", x.quicks(0, 2, 0), (1 << (i + 1)) - 1 - nobody);
    }
    DUE.is("all six, of 1", x.quicks(0, 2, 1), 0);
    Due.sheet(x, 0);
    DUE.is("all six, of a RALLY of none", x.quicks(0, 2, -1), 63);
  }

  private static void promise19WhoWins() {
    DUE.promise(19, "who WINS (0, 1, NONE)");
    MiddleOfCourt x = new MiddleOfCourt();
    x.stroke(PLAIN, 0, 0);
    Due.rule(x, "flies 0;steps 1;slips 0;");
    Due.sheet(x, 0, 0, 0);
    int all = 0;
    for (int who = -1; who <= 1; who++) {
      int bits = x.quicks(0, 2, who);
      DUE.is("no bit twice", all & bits, 0);
      all |= bits;
    }
    DUE.is("each bit once", all, 3);
    DUE.is("0 by the one", x.quicks(0, 2, 0), 2);
    x.set(0, 1, 0);
    DUE.is("1 by it", x.quicks(0, 2, 1), 2);
    DUE.is("nobody by TEXT 0", x.quicks(0, 2, -1), 1);
  }

  private static void promise19InThought() {
    DUE.promise(19, "were it his, were they THE RULE: his QUICK, THE RULE stay");
    MiddleOfCourt x = quickOrNot();
    x.stroke(PLAIN, 0, 0);
    Due.sheet(x, 0, 0, 0);
    x.set(2, 0, 0);
    x.set(2, 1, 9);
    for (int what = 0; what <= 2; what++) {
      x.quicks(0, what, 0);
    }
    DUE.is("QUICK of 0", x.told(0, 2), 0);
    DUE.is("QUICK of 1", x.told(1, 2), 9);
    DUE.is("THE RULE", x.count(4), 1);
    DUE.is("LEGS", x.told(0, 1), 500);
  }

  // ---- promise 20

  /** Whether a SHEET is of bytes, has so many items and tells these CELLS from its first on. */
  private static void tells(MiddleOfCourt x, int sheet, int... cells) {
    DUE.is("it is of bytes", x.strokes(sheet, 0, 0, 0), 0);
    DUE.is("so many, no more", x.cell(sheet, cells.length, 0), -12);
    for (int i = 0; i < cells.length; i++) {
      x.sheet(3, 0, 1);
      DUE.is("item " + i, x.copy(sheet, i, 3, 0, 1), 1);
      DUE.is("tells a CELL", cellIn(x, 3), cells[i]);
    }
  }

  /** The CELL that a SHEET of one byte tells, by a STROKE that is taken from it and goes again. */
  private static int cellIn(MiddleOfCourt x, int sheet) {
    x.image();
    x.sheet(2, 0, 3);
    x.copy(sheet, 0, 2, 2, 1);
    int came = x.strokes(2, 0, 0, 1);
    int aim = came == 1 ? x.told(x.count(0) - 1, 5) : -1;
    x.back();
    return aim;
  }

  private static void promise20Refused() {
    DUE.promise(20, "BAD: both; -11, BAD: of the other one as of rally()");
    MiddleOfCourt x = quickOrNot();
    x.stroke(PLAIN, 0, 0);
    Due.sheet(x, 0, 0, 1);
    for (int odd : new int[] {-1, 4, LEAST, MOST}) {
      DUE.is("film(" + odd + ", 0)", x.film(odd, 0), -2);
      DUE.is("film(0, " + odd + ")", x.film(0, odd), -2);
      DUE.is("BAD ahead of missing", x.film(odd, 1), -2);
    }
    for (int s = 0; s < 4; s++) {
      for (int missing = 1; missing < 4; missing++) {
        DUE.is("of a missing one", x.film(s, missing), -11);
      }
      DUE.is("its last is no STROKE", x.film(s, 0), -2);
    }
    x.cell(0, 1, -1);
    DUE.is("its last is no STROKE", x.film(1, 0), -2);
    DUE.is("still missing", x.cell(1, 0, 0), -11);
    DUE.is("still of ints", x.strokes(0, 2, 0, 0), 0);
    x.cell(0, 1, 0);
    DUE.is("SHEET 3 becomes", x.film(3, 0), 2);
    Due.sheet(x, 3, 0, 0, 0);
    DUE.is("of SHEET 3", x.film(0, 3), 3);
  }

  private static void promise20NoneToForty() {
    DUE.promise(20, "A SHEET truly becomes the CELLS to which balls come (bytes): how many");
    MiddleOfCourt x = quickOrNot();
    x.stroke(PLAIN, 0, 24);
    x.stroke(PLAIN, 0, 0);
    x.sheet(0, 2, 40);
    x.sheet(1, 2, 0);
    x.cell(0, 39, 1);
    DUE.is("40", x.film(1, 0), 40);
    DUE.is("so many", x.cell(1, 40, 0), -12);
    x.sheet(2, 0, 4);
    x.copy(1, 36, 2, 0, 4);
    balls(x, 2, 1, 1112);
    x.sheet(0, 1, 0);
    DUE.is("none", x.film(1, 0), 0);
    tells(x, 1);
    DUE.is("of bytes, none", x.strokes(1, 0, 0, 0), 0);
    DUE.is("no ints", x.strokes(1, 2, 0, 0), -13);
    Due.sheet(x, 0, 0, 1);
    Due.sheet(x, 1, 7, 7, 7, 7);
    DUE.is("a shorter one", x.film(1, 0), 2);
    tells(x, 1, 24, 0);
    x.sheet(1, -1, 0);
    DUE.is("a missing one", x.film(1, 0), 2);
    tells(x, 1, 24, 0);
  }

  private static void promise20TillOneWins() {
    DUE.promise(20, "to which balls come by a RALLY: till one WINS, that ball with them");
    MiddleOfCourt x = quickOrNot();
    x.stroke(PLAIN, 0, 12);
    x.stroke(PLAIN, 0, 20);
    x.set(2, 1, 0);
    Due.sheet(x, 0, 0, 0, 0, 1, 1, 0, 0);
    DUE.is("0 WINS by the fifth, 1 does not by the fourth", x.film(1, 0), 5);
    tells(x, 1, 12, 12, 12, 20, 20);
    Due.sheet(x, 0, 1, 0, 0);
    DUE.is("0 WINS by the first", x.film(1, 0), 1);
    tells(x, 1, 20);
    DUE.is("in thought", x.told(0, 1), 500);
  }

  private static void promise20Itself() {
    DUE.promise(20, "A SHEET becomes the CELLS by a RALLY of another one: also of itself, as it was");
    MiddleOfCourt x = quickOrNot();
    x.stroke(PLAIN, 0, 12);
    x.stroke(PLAIN, 0, 20);
    Due.sheet(x, 0, 1, 0, 1);
    DUE.is("itself", x.film(0, 0), 3);
    tells(x, 0, 20, 12, 20);
    DUE.is("it tells no STROKES now", x.film(0, 0), -2);
  }

  // ---- promise 21

  private static void promise21None() {
    DUE.promise(21, "who (NONE: also if there are none)");
    MiddleOfCourt x = quickOrNot();
    for (int seed : new int[] {0, 1, -1, LEAST, MOST}) {
      DUE.is("drawn(" + seed + ")", x.drawn(seed), -1);
    }
    x.stroke(PLAIN, 0, 12);
    for (int seed : new int[] {0, 1, -1, LEAST, MOST}) {
      DUE.is("nobody WINS, drawn(" + seed + ")", x.drawn(seed), -1);
    }
  }

  private static void promise21FortyAtMost() {
    DUE.promise(21, "till one WINS, 40 at most");
    for (int warm = 36; warm <= 44; warm++) {
      MiddleOfCourt x = new MiddleOfCourt();
      x.stroke(PLAIN, 0, 0);
      Due.rule(x, "flies (warm < " + warm + ") * 99;steps 4;slips 0;");
      int want = warm > 39 ? -1 : warm % 2;
      DUE.is("the " + (warm + 1) + "th would WIN", x.drawn(warm), want);
      x.set(6, 0, 3);
      DUE.is("the " + (warm - 2) + "th would WIN", x.drawn(-warm), warm > 42 ? -1 : (warm - 3) % 2);
    }
    MiddleOfCourt x = new MiddleOfCourt();
    x.stroke(PLAIN, 0, 0);
    Due.rule(x, "flies 0;steps 4;slips 0;");
    DUE.is("the first WINS", x.drawn(0), 0);
  }

  /** The draws reckoned by numbers that do not wrap: z of 32 bits, 9 of them cut off. */
  private static int draw(BigInteger z, int m) {
    return z.shiftRight(9).mod(BigInteger.valueOf(m)).intValue();
  }

  private static BigInteger next(BigInteger z) {
    BigInteger size = BigInteger.ONE.shiftLeft(32);
    return z.multiply(BigInteger.valueOf(1103515245)).add(BigInteger.valueOf(12345)).mod(size);
  }

  /** Of m STROKES only the last WINS, whoever strikes it: who draws it first. */
  private static int whoDrawsTheLast(int seed, int m) {
    BigInteger z = BigInteger.valueOf(seed).mod(BigInteger.ONE.shiftLeft(32));
    for (int i = 0; i < 40; i++) {
      z = next(z);
      if (draw(z, m) == m - 1) {
        return i % 2;
      }
    }
    return -1;
  }

  private static void promise21Draws() {
    DUE.promise(21, "z = z * 1103515245 + 12345 (an int; SEED at first): of m STROKES number (z >>> 9) % m");
    int[] seeds = {0, 1, -1, 2, 5, -77, 1103515245, 12345, LEAST, LEAST + 1, MOST, MOST - 1};
    MiddleOfCourt x = new MiddleOfCourt();
    Due.rule(x, "flies number;steps 9;slips 0;");
    for (int m = 1; m <= 6; m++) {
      x.stroke(PLAIN, 0, 0);
      for (int i = 0; i < m - 1; i++) {
        x.set(4, i, 9);
        x.set(5, i, 12);
      }
      for (int seed : seeds) {
        DUE.is(m + " STROKES, drawn(" + seed + ")", x.drawn(seed), whoDrawsTheLast(seed, m));
      }
      for (int seed = 100; seed < 120; seed++) {
        DUE.is(m + " STROKES, drawn(" + seed + ")", x.drawn(seed), whoDrawsTheLast(seed, m));
      }
    }
  }

  // ---- promise 22

  private static void promise22No() {
    DUE.promise(22, "IN n seeds (1 .. 20); NO: n, part");
    MiddleOfCourt x = new MiddleOfCourt();
    for (int n : new int[] {0, 21, -1, LEAST, MOST}) {
      DUE.is("chance(0, " + n + ", 0)", x.chance(0, n, 0), -4611686018427387904L);
      DUE.is("chance(0, " + n + ", 1)", x.chance(0, n, 1), -4611686018427387904L);
    }
    for (int part : new int[] {-1, 2, LEAST, MOST}) {
      DUE.is("chance(0, 1, " + part + ")", x.chance(0, 1, part), MiddleOfCourt.NO);
    }
    DUE.is("the least n", x.chance(0, 1, 0), 0);
    DUE.is("the most", x.chance(0, 20, 1), 1);
  }

  private static void promise22LowestTerms() {
    DUE.promise(22, "part 0 above, 1 below the line, in lowest terms: none, all");
    MiddleOfCourt x = new MiddleOfCourt();
    for (int n = 1; n <= 20; n++) {
      DUE.is("none of " + n, x.chance(0, n, 0), 0);
      DUE.is("none of " + n, x.chance(0, n, 1), 1);
    }
    x.stroke(PLAIN, 0, 0);
    x.set(2, 1, 0);
    for (int n = 1; n <= 20; n++) {
      DUE.is("all of " + n, x.chance(0, n, 0), 1);
      DUE.is("all of " + n, x.chance(0, n, 1), 1);
    }
    DUE.promise(22, "of these those by which PLAYER 0 does: in lowest terms");
    for (int seed = -40; seed < 40; seed += 9) {
      x = new MiddleOfCourt();
      x.stroke(PLAIN, 0, 12);
      x.stroke(DROP, 0, 0);
      int won = 0;
      for (int n = 1; n <= 20; n++) {
        won += whoDrawsTheLast(seed + n - 1, 2) == 0 ? 1 : 0;
        int gcd = BigInteger.valueOf(won).gcd(BigInteger.valueOf(n)).intValue();
        DUE.is("above, " + n + " from " + seed, x.chance(seed, n, 0), won / gcd);
        DUE.is("below, " + n + " from " + seed, x.chance(seed, n, 1), n / gcd);
      }
    }
  }

  private static void promise22SeedWraps() {
    DUE.promise(22, "SEED and each 1 more (an int)");
    MiddleOfCourt x = new MiddleOfCourt();
    x.stroke(PLAIN, 0, 12);
    x.stroke(PLAIN, 0, 12);
    x.stroke(DROP, 0, 0);
    for (int seed = MOST - 19; seed < MOST; seed++) {
      int won = 0;
      for (int i = 0; i < 20; i++) {
        won += whoDrawsTheLast(seed + i, 3) == 0 ? 1 : 0;
      }
      int gcd = BigInteger.valueOf(won).gcd(BigInteger.valueOf(20)).intValue();
      DUE.is("above, from " + seed, x.chance(seed, 20, 0), won / gcd);
      DUE.is("below, from " + seed, x.chance(seed, 20, 1), 20 / gcd);
    }
  }

  // ---- promises 23, 24

  private static void promise23And24Strokes() {
    for (int kept = 0; kept <= 6; kept++) {
      MiddleOfCourt x = new MiddleOfCourt();
      for (int i = 0; i < kept; i++) {
        x.stroke(5 - i, i, i);
      }
      DUE.promise(23, "AN IMAGE is kept: how many STROKES, 0 .. 6");
      DUE.is("image()", x.image(), kept);
      DUE.is("nothing goes by it", x.count(0), kept);
      for (int i = kept; i < 6; i++) {
        x.stroke(0, 9, 24);
      }
      for (int i = 0; i < 6; i++) {
        x.set(4, i, 8);
        x.set(5, i, 23);
      }
      DUE.promise(24, "NUMBERS, AIMS; STROKES that came since go: how many STROKES");
      DUE.is("back()", x.back(), kept);
      DUE.is("how many", x.count(0), kept);
      for (int i = 0; i < 6; i++) {
        DUE.is("NUMBER of " + i, x.told(i, 4), i < kept ? i : -100);
        DUE.is("AIM of " + i, x.told(i, 5), i < kept ? i : -100);
        DUE.is("KIND of " + i, x.told(i, 6), i < kept ? 5 - i : -100);
        DUE.is("taken of " + i, x.taken(i, 0), i < kept ? i : -11);
      }
      DUE.is("the next one's number", x.stroke(3, 7, 7), kept < 6 ? kept : -4);
    }
  }

  private static void promise23NothingElse() {
    DUE.promise(23, "AN IMAGE is kept: all else is as it was");
    MiddleOfCourt x = new MiddleOfCourt();
    x.stroke(DROP, 9, 24);
    x.set(6, 0, 7);
    Due.rule(x, "flies 0;steps 0;slips 0;");
    Due.feed(x, "fl");
    Due.sheet(x, 3, 0);
    int[] counts = {1, 7, 2, 2, 1};
    int[] first = {12, 500, 5, 12};
    for (int again = 0; again < 2; again++) {
      DUE.is("image()", x.image(), 1);
      for (int what = 0; what < 5; what++) {
        DUE.is("count(" + what + ")", x.count(what), counts[what]);
      }
      for (int what = 0; what < 4; what++) {
        DUE.is("told(0, " + what + ")", x.told(0, what), first[what]);
        DUE.is("told(1, " + what + ")", x.told(1, what), first[what]);
      }
      DUE.is("NUMBER", x.told(0, 4), 9);
      DUE.is("AIM", x.told(0, 5), 24);
      DUE.is("KIND", x.told(0, 6), 2);
      DUE.is("SHEET 3", x.rally(3, 1), 1);
      DUE.is("SHEET 2", x.rally(2, 1), -11);
    }
  }

  private static void promise24State() {
    DUE.promise(24, "STATE: there is none");
    MiddleOfCourt x = new MiddleOfCourt();
    x.stroke(PLAIN, 0, 0);
    x.set(0, 0, 3);
    DUE.is("back()", x.back(), -3);
    DUE.is("back() again", x.back(), -3);
    DUE.is("STROKES", x.count(0), 1);
    DUE.is("CELL", x.told(0, 0), 3);
    x.image();
    DUE.is("there is one", x.back(), 1);
  }

  private static void promise24AllThatItKeeps() {
    DUE.promise(24, "CELLS, LEGS, QUICK, HOME of both, WARM, THE RULE: at their bounds");
    MiddleOfCourt x = new MiddleOfCourt();
    Due.text(x, "flies 0;steps 0;slips 0;");
    int[][] bounds = {{0, 0, 0, -1}, {24, 999, 9, 24}};
    for (int side = 0; side < 2; side++) {
      for (int p = 0; p < 2; p++) {
        for (int what = 0; what < 4; what++) {
          x.set(what, p, bounds[(side + p) % 2][what]);
        }
      }
      x.set(6, 0, side * 99);
      x.force(side);
      x.image();
      for (int p = 0; p < 2; p++) {
        for (int what = 0; what < 4; what++) {
          x.set(what, p, 7);
        }
      }
      x.set(6, 0, 50);
      x.force(1 - side);
      DUE.is("back()", x.back(), 0);
      for (int p = 0; p < 2; p++) {
        for (int what = 0; what < 4; what++) {
          DUE.is("told(" + p + ", " + what + ")", x.told(p, what), bounds[(side + p) % 2][what]);
        }
      }
      DUE.is("WARM", x.count(1), side * 99);
      DUE.is("THE RULE", x.count(4), side);
    }
  }

  private static void promise24AgainAndAgain() {
    DUE.promise(24, "THE IMAGE stays kept, till another one is");
    MiddleOfCourt x = new MiddleOfCourt();
    x.stroke(PLAIN, 1, 1);
    x.image();
    for (int again = 0; again < 3; again++) {
      x.set(4, 0, 9);
      x.set(1, 0, 3);
      x.stroke(PLAIN, 0, 0);
      DUE.is("back()", x.back(), 1);
      DUE.is("NUMBER", x.told(0, 4), 1);
      DUE.is("LEGS", x.told(0, 1), 500);
    }
    x.stroke(DROP, 2, 2);
    x.set(1, 0, 77);
    DUE.is("another one", x.image(), 2);
    x.set(1, 0, 3);
    DUE.is("back to that", x.back(), 2);
    DUE.is("LEGS", x.told(0, 1), 77);
    Due.sheet(x, 0, 0, 0);
    x.play(0);
    DUE.is("behind a play", x.back(), 2);
    DUE.is("LEGS", x.told(0, 1), 77);
    DUE.is("WARM", x.count(1), 0);
  }

  private static void promise24NothingElse() {
    DUE.promise(24, "All that it keeps is as in THE IMAGE: TEXTS, THE TAPE, SHEETS are as they are");
    MiddleOfCourt x = new MiddleOfCourt();
    Due.sheet(x, 0, 1);
    x.image();
    Due.text(x, "flies 0;steps 0;slips 0;");
    Due.feed(x, "fl");
    Due.sheet(x, 0, 3, 4);
    x.sheet(1, 0, 40);
    x.back();
    DUE.is("TEXTS", x.count(2), 2);
    DUE.is("THE TAPE", x.count(3), 2);
    DUE.is("THE RULE", x.count(4), 0);
    DUE.is("SHEET 0", x.cell(0, 1, 4), 1);
    DUE.is("SHEET 1", x.cell(1, 39, 4), 1);
    DUE.is("a TEXT that came since", x.force(1), 0);
  }

  // ---- promise 25

  private static void promise25Bad() {
    DUE.promise(25, "BAD");
    MiddleOfCourt x = new MiddleOfCourt();
    for (int what : new int[] {-1, 5, LEAST, MOST}) {
      DUE.is("count(" + what + ")", x.count(what), -2);
    }
  }

  private static void promise25Bounds() {
    DUE.promise(25, "How many: 0 STROKES, 1 WARM, 2 TEXTS, 3 bytes of THE TAPE, 4 THE RULE");
    MiddleOfCourt x = new MiddleOfCourt();
    int[] least = {0, 0, 1, 0, 0};
    for (int what = 0; what < 5; what++) {
      DUE.is("the least of " + what, x.count(what), least[what]);
    }
    for (int i = 0; i < 6; i++) {
      x.stroke(0, 0, 0);
      DUE.is("STROKES", x.count(0), i + 1);
    }
    x.set(6, 0, 99);
    for (int i = 1; i < 6; i++) {
      x.force(Due.text(x, "flies 0;steps 0;slips 0;"));
      DUE.is("TEXTS", x.count(2), i + 1);
      DUE.is("THE RULE", x.count(4), i);
      x.force(0);
      DUE.is("THE RULE", x.count(4), 0);
      x.force(i);
    }
    for (int n = 1; n <= 160; n++) {
      x.feed(32);
      DUE.is("bytes", x.count(3), n);
    }
    int[] most = {6, 99, 6, 160, 5};
    for (int what = 0; what < 5; what++) {
      DUE.is("the most of " + what, x.count(what), most[what]);
    }
  }
}
