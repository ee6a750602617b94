/** Promises 10 to 12 at their bounds, and those of a STROKE: who just gets there, whose legs are gone. */
public final class BoundsOfRalliesTest {
  private static final Due DUE = new Due();
  private static final int LEAST = Integer.MIN_VALUE, MOST = Integer.MAX_VALUE;
  private static final int PLAIN = 0, LENGTH = 1, DROP = 2, LOB = 3, CROSS = 5;

  public static void main(String[] args) {
    promise10SheetAndWhat();
    promise10MissingOrNoStroke();
    promise10SheetsOfEachSort();
    promise10Empty();
    promise10Forty();
    promise10FirstOrLastWins();
    promise10JustInTime();
    promise10HomeJustInTime();
    promise10HomeNone();
    promise10LegsAtLeastZero();
    promise10WarmAtMost99();
    promise10WarmerByTheWay();
    promise10LegsByTheWay();
    promise10InThought();
    promise11Refused();
    promise11Truly();
    promise11WhoWinsChangesLittle();
    promise11FirstIsPlayerZero();
    promise12None();
    promise12Slips();
    promise12Cut();
    promise12TillOneWins();
    promise12Refused();
    DUE.end("BoundsOfRalliesTest");
  }

  private static void rally(MiddleOfCourt x, int sheet, int... want) {
    for (int what = 0; what < want.length; what++) {
      DUE.is("rally(" + sheet + ", " + what + ")", x.rally(sheet, what), want[what]);
    }
  }

  /** A STROKE flies as many tenths as its NUMBER tells, one step takes as many as QUICK. */
  private static MiddleOfCourt byNumberAndQuick(int number, int aim) {
    MiddleOfCourt x = Due.homeless();
    x.stroke(PLAIN, number, aim);
    Due.rule(x, "flies number;steps quick;slips 0;");
    Due.sheet(x, 0, 0);
    return x;
  }

  /** All balls fly 99 tenths and nobody needs any: everybody gets everywhere. */
  private static MiddleOfCourt endless() {
    MiddleOfCourt x = new MiddleOfCourt();
    Due.rule(x, "flies 99;steps 0;slips 0;");
    return x;
  }

  // ---- promise 10

  private static void promise10SheetAndWhat() {
    DUE.promise(10, "BAD: SHEET, what");
    MiddleOfCourt x = new MiddleOfCourt();
    x.stroke(0, 0, 0);
    for (int s = 0; s < 4; s++) {
      Due.sheet(x, s, 0);
    }
    for (int sheet : new int[] {-1, 4, LEAST, MOST}) {
      DUE.is("rally(" + sheet + ", 0)", x.rally(sheet, 0), -2);
    }
    for (int what : new int[] {-1, 7, LEAST, MOST}) {
      DUE.is("rally(0, " + what + ")", x.rally(0, what), -2);
    }
    for (int s = 0; s < 4; s++) {
      rally(x, s, -1, 1, 499, 498, 12, 0, 1);
    }
    DUE.promise(10, "BAD: SHEET, what; -11: the first that the words name");
    x.sheet(1, -1, 0);
    DUE.is("missing", x.rally(1, 0), -11);
    DUE.is("missing, the last what", x.rally(1, 6), -11);
    DUE.is("what ahead of missing", x.rally(1, 7), -2);
    DUE.is("what ahead of missing", x.rally(1, -1), -2);
  }

  private static void promise10MissingOrNoStroke() {
    DUE.promise(10, "-11; BAD: it tells what is no STROKE");
    MiddleOfCourt x = new MiddleOfCourt();
    Due.sheet(x, 0, 0);
    DUE.is("there are no STROKES", x.rally(0, 0), -2);
    x.stroke(0, 0, 12);
    DUE.is("now it is one", x.rally(0, 0), -1);
    x.stroke(0, 0, 12);
    for (int odd : new int[] {-1, 2, 6, LEAST, MOST}) {
      x.cell(0, 0, odd);
      DUE.is("it tells " + odd, x.rally(0, 0), -2);
    }
    x.cell(0, 0, 1);
    DUE.is("the last STROKE", x.rally(0, 0), -1);
    Due.sheet(x, 1, 0, 1, 0, 2);
    DUE.is("at the last item", x.rally(1, 0), -2);
    Due.sheet(x, 1, 2, 0, 1, 0);
    DUE.is("at the first item", x.rally(1, 0), -2);
    x.set(5, 0, 0);
    x.set(2, 1, 0);
    Due.sheet(x, 1, 0, 2);
    DUE.is("behind a STROKE that WINS", x.rally(1, 0), -2);
    x.stroke(0, 0, 0);
    DUE.is("that one WINS", x.rally(1, 0), 0);
  }

  private static void promise10SheetsOfEachSort() {
    DUE.promise(10, "a SHEET tells STROKES (by numbers): of sort 0 bytes, 1 shorts, 2 ints");
    MiddleOfCourt x = new MiddleOfCourt();
    x.stroke(0, 0, 12);
    x.stroke(0, 0, 0);
    int[][] put = {{1, 1, 1}, {257, 65537, 1}, {-255, -65535, 1}};
    for (int sort = 0; sort < 3; sort++) {
      x.sheet(sort, sort, 1);
      for (int[] v : put) {
        DUE.is("cell", x.cell(sort, 0, v[sort]), 1);
        rally(x, sort, -1, 1, 499, 498, 12, 0, 1);
      }
      for (int v : new int[] {-1, 2, 127, 128, 255}) {
        x.cell(sort, 0, v);
        DUE.is("it tells " + v, x.rally(sort, 0), -2);
      }
    }
    x.cell(0, 0, 256);
    DUE.is("256 of bytes is 0", x.rally(0, 0), -1);
    x.cell(1, 0, 256);
    DUE.is("256 of shorts is none", x.rally(1, 0), -2);
    x.cell(1, 0, 65536);
    DUE.is("65536 of shorts is 0", x.rally(1, 0), -1);
    x.cell(2, 0, 65536);
    DUE.is("65536 of ints is none", x.rally(2, 0), -2);
  }

  private static void promise10Empty() {
    DUE.promise(10, "till one WINS, or it ends: a SHEET that tells none");
    MiddleOfCourt x = new MiddleOfCourt();
    x.sheet(0, 0, 0);
    rally(x, 0, -1, 0, 500, 500, 12, 12, 0);
    x.set(0, 0, 3);
    x.set(0, 1, 24);
    x.set(1, 0, 0);
    x.set(1, 1, 999);
    x.set(6, 0, 99);
    rally(x, 0, -1, 0, 0, 999, 3, 24, 99);
  }

  private static void promise10Forty() {
    DUE.promise(10, "40 items of a SHEET: the first of PLAYER 0, then by turns");
    MiddleOfCourt x = endless();
    x.stroke(PLAIN, 0, 12);
    x.stroke(CROSS, 0, 12);
    x.sheet(0, 0, 40);
    rally(x, 0, -1, 40, 480, 480, 12, 12, 40);
    for (int i = 1; i < 40; i += 2) {
      x.cell(0, i, 1);
    }
    rally(x, 0, -1, 40, 480, 440, 12, 12, 40);
    x.sheet(0, 0, 39);
    rally(x, 0, -1, 39, 480, 481, 12, 12, 39);
    x.sheet(0, 0, 1);
    rally(x, 0, -1, 1, 499, 500, 12, 12, 1);
  }

  private static void promise10FirstOrLastWins() {
    DUE.promise(10, "behind how many STROKES that was (all, if nobody did)");
    MiddleOfCourt x = byNumberAndQuick(9, 12);
    x.stroke(PLAIN, 0, 0);
    x.sheet(0, 0, 40);
    rally(x, 0, -1, 40);
    for (int i = 39; i >= 0; i--) {
      x.cell(0, i, 1);
      rally(x, 0, i % 2, i + 1);
    }
    x.cell(0, 0, 0);
    x.cell(0, 1, 0);
    rally(x, 0, 0, 3, 498, 499, 12, 12, 2);
  }

  private static void promise10JustInTime() {
    DUE.promise(10, "If the other one NEEDS more than t, who struck WINS: as much as t is no more");
    for (int t = 0; t <= 8; t++) {
      MiddleOfCourt x = byNumberAndQuick(t, 11);
      x.set(2, 1, t);
      rally(x, 0, -1, 1, 499, 499, 12, 11, 1);
      x.set(2, 1, t + 1);
      rally(x, 0, 0, 1, 499, 500, 12, 12, 0);
      Due.sheet(x, 1, 1, 0);
      x.stroke(PLAIN, 0, 12);
      x.set(2, 1, 9);
      x.set(2, 0, t);
      rally(x, 1, -1, 2);
      x.set(2, 0, t + 1);
      rally(x, 1, 1, 2, 499, 499, 12, 12, 1);
    }
    DUE.promise(10, "NEEDS: steps times how FAR");
    MiddleOfCourt x = byNumberAndQuick(8, 24);
    x.set(0, 1, 0);
    x.set(2, 1, 2);
    rally(x, 0, -1, 1, 499, 496, 12, 24, 1);
    x.set(2, 1, 3);
    rally(x, 0, 0, 1, 499, 500, 12, 0, 0);
    x.set(0, 1, 24);
    x.set(2, 1, 9);
    x.set(4, 0, 0);
    rally(x, 0, -1, 1, 499, 500, 12, 24, 1);
  }

  private static void promise10HomeJustInTime() {
    DUE.promise(10, "NEEDS no more than t from his CELL to it, his CELL is HOME");
    for (int t = 0; t <= 8; t++) {
      MiddleOfCourt x = byNumberAndQuick(t, 12);
      x.set(3, 0, 11);
      x.set(2, 0, t);
      rally(x, 0, -1, 1, 498, 500, 11, 12, 1);
      x.set(2, 0, t + 1);
      rally(x, 0, -1, 1, 499, 500, 12, 12, 1);
    }
    MiddleOfCourt x = byNumberAndQuick(8, 12);
    x.set(3, 0, 24);
    x.set(0, 0, 0);
    x.set(2, 0, 2);
    rally(x, 0, -1, 1, 495, 500, 24, 12, 1);
    x.set(2, 0, 3);
    rally(x, 0, -1, 1, 499, 500, 0, 12, 1);
  }

  private static void promise10HomeNone() {
    DUE.promise(10, "HOME: the CELL to which one goes back, or NONE: one stays");
    MiddleOfCourt x = endless();
    x.stroke(PLAIN, 0, 12);
    Due.sheet(x, 0, 0);
    for (int cell : new int[] {0, 12, 24}) {
      x.set(0, 0, cell);
      x.set(3, 0, -1);
      rally(x, 0, -1, 1, 499, 500, cell, 12, 1);
      x.set(3, 0, cell);
      rally(x, 0, -1, 1, 499, 500, cell, 12, 1);
      x.set(3, 0, 0);
      rally(x, 0, -1, 1, 499 - (cell == 0 ? 0 : cell == 12 ? 2 : 4), 500, 0, 12, 1);
      x.set(3, 0, 24);
      rally(x, 0, -1, 1, 499 - (cell == 24 ? 0 : cell == 12 ? 2 : 4), 500, 24, 12, 1);
    }
    DUE.promise(10, "the other one has a HOME, too, and goes there behind no other's STROKE");
    x.set(0, 0, 12);
    x.set(3, 0, -1);
    x.set(3, 1, 24);
    rally(x, 0, -1, 1, 499, 500, 12, 12, 1);
    Due.sheet(x, 0, 0, 0);
    rally(x, 0, -1, 2, 499, 497, 12, 24, 2);
  }

  private static void legsOf(int kind, int number, int first, int second, int wantFirst, int wantSecond) {
    MiddleOfCourt x = endless();
    x.stroke(kind, number, 14);
    x.set(0, 0, 16);
    x.set(1, 0, first);
    x.set(1, 1, second);
    Due.sheet(x, 0, 0);
    DUE.is("LEGS of 0 of " + first + ", kind " + kind + ", NUMBER " + number, x.rally(0, 2), wantFirst);
    DUE.is("LEGS of 1 of " + second + ", kind " + kind + ", NUMBER " + number, x.rally(0, 3), wantSecond);
  }

  /** From 16 to HOME, 12, is 1 FAR; 14 is 2 FAR from 12. */
  private static void promise10LegsAtLeastZero() {
    DUE.promise(10, "his LEGS are SPENDS less (0 at least); LEGS how FAR that was less (0 at least), of both");
    legsOf(PLAIN, 9, 0, 0, 0, 0);
    legsOf(PLAIN, 9, 1, 1, 0, 0);
    legsOf(PLAIN, 9, 2, 2, 0, 0);
    legsOf(PLAIN, 9, 3, 3, 1, 1);
    legsOf(DROP, 9, 4, 2, 0, 0);
    legsOf(DROP, 9, 5, 2, 0, 0);
    legsOf(DROP, 9, 6, 2, 0, 0);
    legsOf(DROP, 9, 7, 2, 1, 0);
    legsOf(LOB, 9, 0, 2, 0, 0);
    legsOf(LOB, 9, 1, 2, 0, 0);
    legsOf(LOB, 9, 2, 3, 1, 1);
    legsOf(CROSS, 9, 999, 999, 995, 997);
    DUE.promise(10, "who WINS: his LEGS are SPENDS less (0 at least)");
    MiddleOfCourt x = byNumberAndQuick(0, 0);
    for (int legs : new int[] {0, 1, 2, 999}) {
      x.set(1, 0, legs);
      rally(x, 0, 0, 1, Math.max(0, legs - 1), 500, 12, 12, 0);
    }
  }

  private static void promise10WarmAtMost99() {
    DUE.promise(10, "then WARM is 1 more (99 at most)");
    MiddleOfCourt x = endless();
    x.stroke(PLAIN, 0, 12);
    for (int n = 0; n <= 3; n++) {
      x.sheet(0, 0, n);
      for (int warm : new int[] {0, 1, 96, 97, 98, 99}) {
        x.set(6, 0, warm);
        DUE.is("WARM " + warm + " behind " + n, x.rally(0, 6), Math.min(99, warm + n));
      }
    }
    DUE.promise(10, "who WINS: WARM does not change");
    x = byNumberAndQuick(0, 0);
    x.set(6, 0, 98);
    rally(x, 0, 0, 1, 499, 500, 12, 12, 98);
  }

  /** The drop is struck with WARM 19, the other one's with 20; by whole tenths he just gets there. */
  private static void promise10WarmerByTheWay() {
    DUE.promise(10, "WARM as it is when the STROKE is struck: below 20 or not");
    MiddleOfCourt x = byNumberAndQuick(9, 12);
    x.stroke(DROP, 5, 11);
    x.set(2, 0, 5);
    x.set(2, 1, 5);
    Due.sheet(x, 0, 1);
    x.set(6, 0, 19);
    rally(x, 0, 0, 1);
    x.set(6, 0, 20);
    rally(x, 0, -1, 1);
    Due.sheet(x, 0, 0, 1);
    x.set(6, 0, 18);
    rally(x, 0, 1, 2, 499, 497, 12, 12, 19);
    x.set(6, 0, 19);
    rally(x, 0, -1, 2, 498, 497, 11, 12, 21);
  }

  /** Whose LEGS a text is told: those from before SPENDS as the ball flies, those behind it for HOME. */
  private static void promise10LegsByTheWay() {
    DUE.promise(10, "its TENTHS are t; then his LEGS are SPENDS less; then HOME");
    MiddleOfCourt x = new MiddleOfCourt();
    x.stroke(PLAIN, 0, 12);
    x.set(3, 0, 11);
    Due.sheet(x, 0, 0);
    Due.rule(x, "flies (legs = 500) * 9;steps 9;slips 0;");
    rally(x, 0, -1, 1, 498, 500, 11, 12, 1);
    Due.rule(x, "flies 8;steps (legs = 500) * 9;slips 0;");
    rally(x, 0, -1, 1, 498, 500, 11, 12, 1);
    Due.rule(x, "flies 8;steps (legs = 499) * 9;slips 0;");
    rally(x, 0, -1, 1, 499, 500, 12, 12, 1);
    DUE.promise(10, "then WARM is 1 more: behind HOME");
    Due.rule(x, "flies 8;steps warm * 9;slips 0;");
    rally(x, 0, -1, 1, 498, 500, 11, 12, 1);
  }

  private static void promise10InThought() {
    DUE.promise(10, "A RALLY, in thought");
    MiddleOfCourt x = new MiddleOfCourt();
    x.stroke(LENGTH, 9, 0);
    x.sheet(0, 0, 40);
    for (int what = 0; what < 7; what++) {
      x.rally(0, what);
    }
    int[] first = {12, 500, 5, 12};
    for (int p = 0; p < 2; p++) {
      for (int what = 0; what < 4; what++) {
        DUE.is("told(" + p + ", " + what + ")", x.told(p, what), first[what]);
      }
    }
    DUE.is("WARM", x.count(1), 0);
  }

  // ---- promise 11

  private static void promise11Refused() {
    DUE.promise(11, "BAD; -11; BAD");
    MiddleOfCourt x = new MiddleOfCourt();
    x.stroke(0, 0, 0);
    for (int sheet : new int[] {-1, 4, LEAST, MOST}) {
      DUE.is("play(" + sheet + ")", x.play(sheet), -2);
    }
    for (int s = 0; s < 4; s++) {
      DUE.is("missing", x.play(s), -11);
    }
    Due.sheet(x, 0, 0, 0, 0, 1);
    DUE.is("its last is no STROKE", x.play(0), -2);
    Due.sheet(x, 0, -1, 0);
    DUE.is("its first is no STROKE", x.play(0), -2);
    DUE.is("LEGS", x.told(0, 1), 500);
    DUE.is("WARM", x.count(1), 0);
    Due.sheet(x, 3, 0);
    DUE.is("SHEET 3", x.play(3), -1);
  }

  private static void playEnds(MiddleOfCourt x, int sheet, int winner, int... legsCellsWarm) {
    DUE.is("play(" + sheet + ")", x.play(sheet), winner);
    DUE.is("LEGS of 0", x.told(0, 1), legsCellsWarm[0]);
    DUE.is("LEGS of 1", x.told(1, 1), legsCellsWarm[1]);
    DUE.is("CELL of 0", x.told(0, 0), legsCellsWarm[2]);
    DUE.is("CELL of 1", x.told(1, 0), legsCellsWarm[3]);
    DUE.is("WARM", x.count(1), legsCellsWarm[4]);
  }

  private static void promise11Truly() {
    DUE.promise(11, "That truly (all is as it is then): who WINS; NONE");
    MiddleOfCourt x = endless();
    x.stroke(PLAIN, 0, 0);
    Due.sheet(x, 0);
    playEnds(x, 0, -1, 500, 500, 12, 12, 0);
    Due.sheet(x, 0, 0);
    playEnds(x, 0, -1, 499, 498, 12, 0, 1);
    Due.sheet(x, 0, 0, 0);
    playEnds(x, 0, -1, 496, 495, 0, 12, 3);
    x.sheet(0, 0, 40);
    x.set(1, 0, 3);
    x.set(6, 0, 70);
    playEnds(x, 0, -1, 0, 395, 0, 12, 99);
    DUE.is("QUICK", x.told(0, 2), 5);
    DUE.is("HOME", x.told(1, 3), 12);
    DUE.is("the SHEET is as it was", x.cell(0, 39, 0), 1);
  }

  private static void promise11WhoWinsChangesLittle() {
    DUE.promise(11, "who struck WINS (nothing else changes)");
    MiddleOfCourt x = byNumberAndQuick(0, 0);
    x.set(3, 0, 24);
    x.set(2, 0, 0);
    playEnds(x, 0, 0, 499, 500, 12, 12, 0);
    x.set(1, 0, 0);
    playEnds(x, 0, 0, 0, 500, 12, 12, 0);
    x.sheet(0, 0, 40);
    x.set(1, 0, 9);
    playEnds(x, 0, 0, 8, 500, 12, 12, 0);
    x.set(0, 1, 0);
    x.set(3, 1, 24);
    x.set(2, 0, 1);
    playEnds(x, 0, 1, 7, 499, 12, 0, 1);
  }

  private static void promise11FirstIsPlayerZero() {
    DUE.promise(11, "the first of PLAYER 0, also of the next RALLY");
    MiddleOfCourt x = endless();
    x.stroke(CROSS, 0, 12);
    Due.sheet(x, 0, 0);
    playEnds(x, 0, -1, 497, 500, 12, 12, 1);
    playEnds(x, 0, -1, 494, 500, 12, 12, 2);
    Due.sheet(x, 0, 0, 0);
    playEnds(x, 0, -1, 491, 497, 12, 12, 4);
  }

  // ---- promise 12

  private static MiddleOfCourt slipping(String slips, int n) {
    MiddleOfCourt x = new MiddleOfCourt();
    x.stroke(PLAIN, 0, 12);
    Due.rule(x, "flies 99;steps 0;slips " + slips + ";");
    x.sheet(0, 0, n);
    return x;
  }

  private static void promise12None() {
    DUE.promise(12, "LIKELY: 1000000000, for each of these STROKES: of none");
    DUE.is("slips 0", slipping("0", 0).likely(0), 1000000000L);
    DUE.is("slips 100", slipping("100", 0).likely(0), 1000000000L);
  }

  private static void promise12Slips() {
    DUE.promise(12, "times (100 less slips) by 100: slips 0 .. 100, else the bound");
    DUE.is("0", slipping("0", 40).likely(0), 1000000000L);
    DUE.is("below 0", slipping("- 50", 40).likely(0), 1000000000L);
    DUE.is("1", slipping("1", 1).likely(0), 990000000L);
    DUE.is("99", slipping("99", 1).likely(0), 10000000L);
    DUE.is("100", slipping("100", 1).likely(0), 0L);
    DUE.is("above 100", slipping("150", 1).likely(0), 0L);
    DUE.is("above 100, twice", slipping("150", 2).likely(0), 0L);
    DUE.is("only the last one", slipping("(warm = 39) * 100", 40).likely(0), 0L);
    DUE.is("one behind the last one", slipping("(warm = 40) * 100", 40).likely(0), 1000000000L);
    DUE.is("only the first one", slipping("(warm = 0) * 100", 40).likely(0), 0L);
  }

  private static void promise12Cut() {
    DUE.promise(12, "by 100 (cut), for each");
    DUE.is("67 of 100, four times", slipping("33", 4).likely(0), 201511210L);
    DUE.is("five times: 135012510.7", slipping("33", 5).likely(0), 135012510L);
    DUE.is("six times: 90458381.7, not 90458382.1", slipping("33", 6).likely(0), 90458381L);
    DUE.is("1 of 100, four times", slipping("99", 4).likely(0), 10L);
    DUE.is("five times", slipping("99", 5).likely(0), 0L);
    DUE.is("half, forty times", slipping("50", 40).likely(0), 0L);
    DUE.is("half, twenty-nine times", slipping("50", 29).likely(0), 1L);
    DUE.is("half, thirty times", slipping("50", 30).likely(0), 0L);
  }

  private static void promise12TillOneWins() {
    DUE.promise(12, "for each of these STROKES: till one WINS, that one with them");
    MiddleOfCourt x = byNumberAndQuick(9, 12);
    x.stroke(PLAIN, 0, 0);
    Due.rule(x, "flies number;steps quick;slips 10;");
    Due.sheet(x, 0, 1, 0, 0);
    DUE.is("the first WINS", x.likely(0), 900000000L);
    Due.sheet(x, 0, 0, 1, 0, 0);
    DUE.is("the second WINS", x.likely(0), 810000000L);
    Due.sheet(x, 0, 0, 0, 1);
    DUE.is("the last WINS", x.likely(0), 729000000L);
    Due.sheet(x, 0, 0, 0, 0);
    DUE.is("nobody does", x.likely(0), 729000000L);
  }

  private static void promise12Refused() {
    DUE.promise(12, "NO: refused as of rally()");
    MiddleOfCourt x = new MiddleOfCourt();
    x.stroke(0, 0, 0);
    for (int sheet : new int[] {-1, 0, 3, 4, LEAST, MOST}) {
      DUE.is("likely(" + sheet + ")", x.likely(sheet), -4611686018427387904L);
    }
    Due.sheet(x, 3, 0);
    DUE.is("SHEET 3", x.likely(3), 960000000L);
    Due.sheet(x, 3, 0, 1);
    DUE.is("its last is no STROKE", x.likely(3), MiddleOfCourt.NO);
    Due.sheet(x, 3, -1, 0);
    DUE.is("its first is no STROKE", x.likely(3), MiddleOfCourt.NO);
  }
}
