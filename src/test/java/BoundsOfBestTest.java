/** Promises 13 to 17 at their bounds: how far ahead is looked, like ones, none, the way step by step. */
public final class BoundsOfBestTest {
  private static final Due DUE = new Due();
  private static final int LEAST = Integer.MIN_VALUE, MOST = Integer.MAX_VALUE;
  private static final int PLAIN = 0, DROP = 2, CROSS = 5;

  public static void main(String[] args) {
    promise13NoneSuch();
    promise13NothingLeft();
    promise13NoStrokes();
    promise13HowFarAhead();
    promise13FirstOfLikeOnes();
    promise13AnyOfSix();
    promise13AllLose();
    promise13LessBad();
    promise13ByTurns();
    promise13AsAllIs();
    promise14Bad();
    promise14OneThreeFive();
    promise14AnyOfSix();
    promise14None();
    promise15NoneSuch();
    promise15NoStrokes();
    promise15LikeOnes();
    promise15AtMost();
    promise15AsThatOneIs();
    promise15WhereHeSetsOut();
    promise16Bad();
    promise16None();
    promise16LikeOnes();
    promise16JustNotWon();
    promise17Refused();
    promise17None();
    promise17SetsOutAndC();
    promise17StepByStep();
    promise17HomeDoesNotMatter();
    promise17WhichStroke();
    promise17NotIfItWins();
    DUE.end("BoundsOfBestTest");
  }

  /** A ball flies long till WARM is as told, and then not at all: the STROKE struck then WINS. */
  private static MiddleOfCourt wonAtWarm(int warm) {
    MiddleOfCourt x = new MiddleOfCourt();
    x.stroke(PLAIN, 0, 0);
    Due.rule(x, "flies (warm < " + warm + ") * 99;steps 4;slips 0;");
    return x;
  }

  private static void best(MiddleOfCourt x, int player, int n, int value, int stroke) {
    DUE.is("best(" + player + ", " + n + ", 0)", x.best(player, n, 0), value);
    DUE.is("best(" + player + ", " + n + ", 1)", x.best(player, n, 1), stroke);
  }

  // ---- promise 13

  private static void promise13NoneSuch() {
    DUE.promise(13, "n STROKES being left to both together (0 .. 5); -100: none such");
    MiddleOfCourt x = wonAtWarm(0);
    for (int odd : new int[] {-1, 2, LEAST, MOST}) {
      DUE.is("PLAYER " + odd, x.best(odd, 1, 0), -100);
      DUE.is("what " + odd, x.best(0, 1, odd), -100);
    }
    for (int odd : new int[] {-1, 6, LEAST, MOST}) {
      DUE.is("VALUE, n " + odd, x.best(0, odd, 0), -100);
      DUE.is("BEST, n " + odd, x.best(1, odd, 1), -100);
    }
    best(x, 1, 5, 1, 0);
  }

  private static void promise13NothingLeft() {
    DUE.promise(13, "VALUE: 0, if n is 0; BEST: NONE: n is 0");
    best(wonAtWarm(0), 0, 0, 0, -1);
    best(wonAtWarm(0), 1, 0, 0, -1);
  }

  private static void promise13NoStrokes() {
    DUE.promise(13, "VALUE: 0, if there are no STROKES; BEST: NONE: there are no STROKES");
    MiddleOfCourt x = new MiddleOfCourt();
    for (int n = 0; n <= 5; n++) {
      best(x, 0, n, 0, -1);
      best(x, 1, n, 0, -1);
    }
  }

  private static void promise13HowFarAhead() {
    DUE.promise(13, "n STROKES being left: 1, if who struck WINS, else VALUE for the other one, with the other sign");
    for (int wins = 1; wins <= 6; wins++) {
      MiddleOfCourt x = wonAtWarm(wins - 1);
      for (int n = 1; n <= 5; n++) {
        int value = n < wins ? 0 : wins % 2 == 1 ? 1 : -1;
        best(x, 0, n, value, 0);
        best(x, 1, n, value, 0);
      }
    }
  }

  private static void promise13FirstOfLikeOnes() {
    DUE.promise(13, "BEST: the first STROKE by which that is so");
    MiddleOfCourt x = wonAtWarm(0);
    for (int i = 1; i < 6; i++) {
      x.stroke(PLAIN, 0, 0);
    }
    best(x, 0, 1, 1, 0);
    x.set(5, 0, 12);
    best(x, 0, 1, 1, 1);
    x.set(5, 1, 12);
    x.set(5, 4, 12);
    best(x, 0, 1, 1, 2);
    for (int i = 0; i < 6; i++) {
      x.set(5, i, 12);
    }
    for (int n = 1; n <= 5; n++) {
      best(x, 0, n, 0, 0);
    }
  }

  private static void promise13AnyOfSix() {
    DUE.promise(13, "the most, over all STROKES");
    for (int wins = 0; wins < 6; wins++) {
      MiddleOfCourt x = new MiddleOfCourt();
      for (int i = 0; i < 6; i++) {
        x.stroke(PLAIN, 0, i == wins ? 0 : 12);
      }
      Due.rule(x, "flies 0;steps 1;slips 0;");
      for (int n = 1; n <= 5; n++) {
        best(x, 1, n, 1, wins);
      }
    }
  }

  private static void promise13AllLose() {
    DUE.promise(13, "by like ones, also if all of them are lost, the first");
    MiddleOfCourt x = wonAtWarm(1);
    for (int i = 1; i < 6; i++) {
      x.stroke(PLAIN, 0, 0);
    }
    best(x, 0, 1, 0, 0);
    for (int n = 2; n <= 5; n++) {
      best(x, 0, n, -1, 0);
    }
  }

  /** Who has gone 2 FAR has 498 LEGS, and his balls fly then: so one must make the other one go. */
  private static void promise13LessBad() {
    DUE.promise(13, "VALUE -1, 0, 1: a STROKE of VALUE 0 is more than one of -1");
    MiddleOfCourt x = new MiddleOfCourt();
    x.stroke(PLAIN, 0, 12);
    x.stroke(PLAIN, 0, 0);
    x.stroke(PLAIN, 0, 12);
    Due.rule(x, "flies (warm < 1 or legs = 498) * 99;steps 4;slips 0;");
    best(x, 0, 1, 0, 0);
    best(x, 0, 2, 0, 1);
    x.set(5, 1, 12);
    x.set(5, 2, 0);
    best(x, 0, 2, 0, 2);
  }

  /** Only one of both can WIN, who has few LEGS left; and only at one WARM. */
  private static void promise13ByTurns() {
    DUE.promise(13, "else of VALUE for the other one: by turns, each with what is his");
    for (int at = 0; at < 5; at++) {
      for (int few = 0; few < 2; few++) {
        MiddleOfCourt x = new MiddleOfCourt();
        x.stroke(PLAIN, 0, 0);
        Due.rule(x, "flies (not (warm = " + at + " and legs < 400)) * 99;steps 4;slips 0;");
        x.set(1, few, 300);
        for (int player = 0; player < 2; player++) {
          boolean his = (player + at) % 2 == few;
          for (int n = 0; n <= 5; n++) {
            int value = !his || n <= at ? 0 : at % 2 == 0 ? 1 : -1;
            best(x, player, n, value, n == 0 ? -1 : 0);
          }
          DUE.is("sure(" + player + ")", x.sure(player), his && at % 2 == 0 ? at + 1 : -1);
        }
      }
    }
  }

  private static void promise13AsAllIs() {
    DUE.promise(13, "VALUE, as all is: CELLS, LEGS, QUICK, HOME, WARM of now");
    MiddleOfCourt x = new MiddleOfCourt();
    x.stroke(DROP, 0, 0);
    best(x, 0, 1, 1, 0);
    x.set(6, 0, 19);
    best(x, 0, 1, 1, 0);
    x.set(6, 0, 20);
    best(x, 0, 1, 0, 0);
    x.set(6, 0, 19);
    x.set(2, 1, 5);
    x.set(0, 1, 0);
    best(x, 0, 1, 0, 0);
    best(x, 1, 1, 1, 0);
    x.set(2, 0, 9);
    best(x, 1, 1, 0, 0);
  }

  // ---- promise 14

  private static void promise14Bad() {
    DUE.promise(14, "BAD");
    for (int player : new int[] {-1, 2, LEAST, MOST}) {
      DUE.is("sure(" + player + ")", wonAtWarm(0).sure(player), -2);
    }
  }

  private static void promise14OneThreeFive() {
    DUE.promise(14, "SURE: the least of n 1, 3, 5 by which VALUE is 1");
    int[] want = {1, -1, 3, -1, 5, -1, -1, -1};
    for (int warm = 0; warm < want.length; warm++) {
      for (int player = 0; player < 2; player++) {
        DUE.is("PLAYER " + player + ", won at WARM " + warm, wonAtWarm(warm).sure(player), want[warm]);
      }
    }
  }

  private static void promise14AnyOfSix() {
    DUE.promise(14, "SURE: by which VALUE is 1, whichever STROKE it is");
    for (int warm = 0; warm <= 4; warm += 2) {
      MiddleOfCourt x = new MiddleOfCourt();
      for (int i = 0; i < 4; i++) {
        x.stroke(PLAIN, 0, i == 3 ? 0 : 12);
      }
      x.set(3, 0, -1);
      x.set(3, 1, -1);
      Due.rule(x, "flies (warm < " + warm + ") * 99;steps 4;slips 0;");
      DUE.is("by the last of four, WARM " + warm, x.sure(0), warm + 1);
      x.set(6, 0, warm);
      DUE.is("now", x.sure(1), 1);
    }
  }

  private static void promise14None() {
    DUE.promise(14, "NONE");
    MiddleOfCourt x = new MiddleOfCourt();
    DUE.is("no STROKES", x.sure(0), -1);
    x.stroke(PLAIN, 0, 12);
    DUE.is("nobody WINS", x.sure(1), -1);
  }

  // ---- promise 15

  private static void stand(MiddleOfCourt x, int player, int cell, int most) {
    DUE.is("stand(" + player + ", 0)", x.stand(player, 0), cell);
    DUE.is("stand(" + player + ", 1)", x.stand(player, 1), most);
  }

  private static void promise15NoneSuch() {
    DUE.promise(15, "-100000: none such");
    MiddleOfCourt x = new MiddleOfCourt();
    for (int odd : new int[] {-1, 2, LEAST, MOST}) {
      DUE.is("stand(" + odd + ", 0)", x.stand(odd, 0), -100000);
      DUE.is("stand(0, " + odd + ")", x.stand(0, odd), -100000);
    }
  }

  private static void promise15NoStrokes() {
    DUE.promise(15, "the most then (1; there are no STROKES: 0)");
    MiddleOfCourt x = new MiddleOfCourt();
    stand(x, 0, 0, 0);
    stand(x, 1, 0, 0);
  }

  private static void promise15LikeOnes() {
    DUE.promise(15, "of all CELLS the one least bad; of like ones the first");
    MiddleOfCourt x = new MiddleOfCourt();
    x.stroke(PLAIN, 0, 24);
    x.set(2, 0, 9);
    stand(x, 0, 0, -14);
    x.set(2, 0, 8);
    stand(x, 0, 24, -14);
    x.set(5, 0, 0);
    stand(x, 0, 0, -14);
    x.stroke(PLAIN, 0, 24);
    x.set(0, 1, 12);
    stand(x, 0, 12, 2 - 14);
    x.set(5, 1, 4);
    stand(x, 0, 2, 2 - 14);
    x.set(5, 1, 20);
    stand(x, 0, 10, 2 - 14);
    for (int cell = 0; cell < 25; cell++) {
      x = new MiddleOfCourt();
      x.stroke(PLAIN, 0, cell);
      Due.rule(x, "flies 50;steps 1;slips 0;");
      stand(x, 0, cell, -50);
      stand(x, 1, cell, -50);
    }
  }

  /** From 12 a STROKE to a corner flies 14, to the middle 8; one step takes 4. */
  private static void promise15AtMost() {
    DUE.promise(15, "of all STROKES NEEDS less TENTHS is at most: below 0, 0, above 0");
    MiddleOfCourt x = new MiddleOfCourt();
    x.stroke(PLAIN, 0, 12);
    stand(x, 1, 12, -8);
    x.set(2, 1, 0);
    x.stroke(PLAIN, 0, 0);
    stand(x, 1, 6, 9 - 8);
    Due.rule(x, "flies 4;steps 9 - quick;slips 0;");
    x.set(2, 1, 5);
    stand(x, 1, 6, 0);
    Due.rule(x, "flies 0;steps 99;slips 0;");
    x.set(5, 0, 24);
    stand(x, 1, 12, 198);
  }

  private static void promise15AsThatOneIs() {
    DUE.promise(15, "all STROKES that the other one can strike (as that one is)");
    MiddleOfCourt x = new MiddleOfCourt();
    x.stroke(CROSS, 2, 0);
    x.set(0, 0, 24);
    x.set(0, 1, 12);
    stand(x, 0, 0, -14);
    x.set(0, 1, 11);
    stand(x, 0, 4, -17);
    x.set(0, 1, 10);
    stand(x, 0, 4, -20);
    stand(x, 1, 0, -20);
    DUE.promise(15, "NEEDS: of the PLAYER who stands");
    x = new MiddleOfCourt();
    x.stroke(PLAIN, 0, 0);
    x.stroke(PLAIN, 0, 24);
    x.set(2, 0, 7);
    x.set(2, 1, 3);
    stand(x, 0, 12, 2 * 2 - 14);
    stand(x, 1, 12, 2 * 6 - 14);
  }

  private static void promise15WhereHeSetsOut() {
    DUE.promise(15, "NEEDS from it to where it COMES: the CELL is where he sets out");
    MiddleOfCourt x = new MiddleOfCourt();
    x.stroke(PLAIN, 0, 24);
    Due.rule(x, "flies 0;steps 24 - cell;slips 0;");
    stand(x, 0, 24, 0);
    Due.rule(x, "flies 0;steps cell;slips 0;");
    stand(x, 0, 0, 0);
    Due.rule(x, "flies 0;steps (cell = 17) - 1 + 3 * (not cell = 17);slips 0;");
    stand(x, 0, 17, 0);
  }

  // ---- promise 16

  private static void promise16Bad() {
    DUE.promise(16, "BAD");
    MiddleOfCourt x = new MiddleOfCourt();
    x.stroke(PLAIN, 0, 12);
    for (int player : new int[] {-1, 2, LEAST, MOST}) {
      DUE.is("tires(" + player + ")", x.tires(player), -2);
    }
    DUE.is("who strikes: 1", x.tires(1), 0);
  }

  private static void promise16None() {
    DUE.promise(16, "NONE");
    MiddleOfCourt x = new MiddleOfCourt();
    DUE.is("no STROKES", x.tires(0), -1);
    for (int i = 0; i < 6; i++) {
      x.stroke(DROP, 0, 0);
    }
    DUE.is("all would WIN", x.tires(0), -1);
    x.set(5, 5, 12);
    DUE.is("but the last one, 0 FAR", x.tires(0), 5);
  }

  private static void promise16LikeOnes() {
    DUE.promise(16, "that by which the other one would go FAR most; of like ones the first");
    MiddleOfCourt x = new MiddleOfCourt();
    x.stroke(PLAIN, 0, 12);
    x.stroke(PLAIN, 0, 12);
    DUE.is("0 FAR", x.tires(0), 0);
    x.stroke(PLAIN, 0, 13);
    x.stroke(PLAIN, 0, 18);
    DUE.is("1 FAR", x.tires(0), 2);
    x.stroke(PLAIN, 0, 24);
    x.stroke(PLAIN, 0, 2);
    DUE.is("2 FAR", x.tires(0), 4);
    x.set(5, 0, 10);
    DUE.is("the first of 2 FAR", x.tires(0), 0);
    x.set(0, 1, 11);
    DUE.is("who strikes is the other one", x.tires(1), 0);
    DUE.is("from 11 it is 3 to 24", x.tires(0), 4);
  }

  private static void promise16JustNotWon() {
    DUE.promise(16, "of all STROKES that wouldn't WIN: who NEEDS as much as t gets there");
    MiddleOfCourt x = new MiddleOfCourt();
    x.stroke(PLAIN, 0, 12);
    x.stroke(PLAIN, 8, 0);
    Due.rule(x, "flies number;steps quick;slips 0;");
    x.set(2, 1, 4);
    DUE.is("8 tenths, 8 needed", x.tires(0), 1);
    x.set(2, 1, 5);
    DUE.is("8 tenths, 10 needed", x.tires(0), 0);
    x.set(2, 1, 4);
    x.set(4, 1, 7);
    DUE.is("7 tenths, 8 needed", x.tires(0), 0);
  }

  // ---- promise 17

  private static void promise17Refused() {
    DUE.promise(17, "BAD; -11; BAD: as of rally()");
    MiddleOfCourt x = new MiddleOfCourt();
    x.stroke(PLAIN, 0, 0);
    for (int sheet : new int[] {-1, 4, LEAST, MOST}) {
      DUE.is("inTheWay(" + sheet + ")", x.inTheWay(sheet), -2);
    }
    for (int s = 0; s < 4; s++) {
      DUE.is("missing", x.inTheWay(s), -11);
    }
    Due.sheet(x, 3, 0, 1);
    DUE.is("its last is no STROKE", x.inTheWay(3), -2);
    Due.sheet(x, 3, -1, 0);
    DUE.is("its first is no STROKE", x.inTheWay(3), -2);
    Due.sheet(x, 3, 0);
    DUE.is("SHEET 3", x.inTheWay(3), -1);
  }

  /** Who is in the way as the first STROKE, struck from a CELL, makes the other one go. */
  private static void way(int struckFrom, int setsOut, int to, int want) {
    MiddleOfCourt x = Due.homeless();
    x.stroke(PLAIN, 0, to);
    Due.rule(x, "flies 99;steps 1;slips 0;");
    x.set(0, 0, struckFrom);
    x.set(0, 1, setsOut);
    Due.sheet(x, 0, 0);
    DUE.is("struck from " + struckFrom + ", one goes from " + setsOut + " to " + to, x.inTheWay(0), want);
  }

  private static void promise17None() {
    DUE.promise(17, "NONE");
    MiddleOfCourt x = new MiddleOfCourt();
    x.stroke(PLAIN, 0, 0);
    x.sheet(0, 0, 0);
    DUE.is("a RALLY of none", x.inTheWay(0), -1);
    way(0, 12, 24, -1);
    way(24, 12, 0, -1);
  }

  private static void promise17SetsOutAndC() {
    DUE.promise(17, "not the CELL where that one sets out, but c, too");
    way(10, 10, 14, -1);
    way(14, 10, 14, 0);
    way(11, 10, 14, 0);
    way(13, 10, 14, 0);
    way(9, 10, 14, -1);
    way(15, 10, 14, -1);
    way(10, 10, 11, -1);
    way(11, 10, 11, 0);
    DUE.promise(17, "the other one goes nowhere: over no CELL");
    way(12, 12, 12, -1);
    way(0, 0, 0, -1);
    way(0, 12, 12, -1);
  }

  private static void onlyOver(int setsOut, int to, int... over) {
    for (int struckFrom = 0; struckFrom < 25; struckFrom++) {
      int want = -1;
      for (int cell : over) {
        want = cell == struckFrom ? 0 : want;
      }
      way(struckFrom, setsOut, to, want);
    }
  }

  private static void promise17StepByStep() {
    DUE.promise(17, "step by step, each of x and y that is yet off 1 nearer");
    onlyOver(0, 24, 6, 12, 18, 24);
    onlyOver(24, 0, 18, 12, 6, 0);
    onlyOver(4, 20, 8, 12, 16, 20);
    onlyOver(20, 4, 16, 12, 8, 4);
    onlyOver(0, 4, 1, 2, 3, 4);
    onlyOver(4, 0, 3, 2, 1, 0);
    onlyOver(0, 20, 5, 10, 15, 20);
    onlyOver(20, 0, 15, 10, 5, 0);
    onlyOver(0, 14, 6, 12, 13, 14);
    onlyOver(14, 0, 8, 2, 1, 0);
    onlyOver(0, 22, 6, 12, 17, 22);
    onlyOver(22, 0, 16, 10, 5, 0);
    onlyOver(4, 5, 8, 7, 6, 5);
    onlyOver(2, 20, 6, 10, 15, 20);
    onlyOver(12, 7, 7);
    onlyOver(12, 12);
  }

  private static void promise17HomeDoesNotMatter() {
    DUE.promise(17, "the CELL from which it was struck: not the one to which he goes back behind it");
    MiddleOfCourt x = new MiddleOfCourt();
    x.stroke(PLAIN, 0, 14);
    Due.rule(x, "flies 99;steps 0;slips 0;");
    Due.sheet(x, 0, 0);
    x.set(0, 1, 10);
    x.set(0, 0, 0);
    x.set(3, 0, 13);
    DUE.is("HOME is in the way", x.inTheWay(0), -1);
    x.set(0, 0, 13);
    x.set(3, 0, 0);
    DUE.is("he was in the way", x.inTheWay(0), 0);
    DUE.promise(17, "that one's CELL: as he is when it is struck");
    x = new MiddleOfCourt();
    x.stroke(PLAIN, 0, 10);
    x.stroke(PLAIN, 0, 14);
    Due.rule(x, "flies 99;steps 0;slips 0;");
    x.set(0, 0, 9);
    x.set(3, 0, 8);
    x.set(3, 1, 24);
    Due.sheet(x, 0, 0, 1);
    DUE.is("8 to 14, struck from 10", x.inTheWay(0), -1);
    x.set(3, 0, 7);
    x.set(5, 0, 13);
    DUE.is("7 to 14 by 13, struck from 13", x.inTheWay(0), 1);
    x.set(5, 0, 8);
    DUE.is("7 to 14 by 13, struck from 8", x.inTheWay(0), -1);
  }

  private static void promise17WhichStroke() {
    DUE.promise(17, "the first STROKE of a RALLY (from 0): the last of 40");
    MiddleOfCourt x = Due.homeless();
    x.stroke(PLAIN, 0, 12);
    x.stroke(PLAIN, 0, 13);
    x.stroke(PLAIN, 0, 14);
    Due.rule(x, "flies 99;steps 1;slips 0;");
    x.set(0, 1, 13);
    x.sheet(0, 0, 40);
    for (int i = 0; i < 40; i += 2) {
      x.cell(0, i, 1);
    }
    DUE.is("nobody goes", x.inTheWay(0), -1);
    x.cell(0, 39, 2);
    DUE.is("one goes by the last", x.inTheWay(0), 39);
    x.cell(0, 37, 2);
    DUE.is("one goes by another one ahead", x.inTheWay(0), 37);
    x.cell(0, 0, 0);
    DUE.is("by the first: to the CELL of who struck", x.inTheWay(0), 0);
    x.cell(0, 0, 2);
    DUE.is("by the first away from who struck", x.inTheWay(0), 37);
  }

  private static void promise17NotIfItWins() {
    DUE.promise(17, "a STROKE that doesn't WIN");
    MiddleOfCourt x = Due.homeless();
    x.stroke(PLAIN, 4, 14);
    Due.rule(x, "flies number;steps quick;slips 0;");
    x.set(0, 1, 10);
    x.set(2, 1, 1);
    Due.sheet(x, 0, 0);
    DUE.is("4 tenths, 4 needed", x.inTheWay(0), 0);
    x.set(4, 0, 3);
    DUE.is("3 tenths, 4 needed", x.inTheWay(0), -1);
  }
}
