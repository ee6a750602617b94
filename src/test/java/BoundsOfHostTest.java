/** Promises 26 to 30 at their bounds: no such sheet, nothing there, a place outside, another sort. */
public final class BoundsOfHostTest {
  private static final Due DUE = new Due();
  private static final int LEAST = Integer.MIN_VALUE, MOST = Integer.MAX_VALUE;

  public static void main(String[] args) {
    promise26Bad();
    promise26Sizes();
    promise26BelowNothing();
    promise26Missing();
    promise26AllZero();
    promise27Refused();
    promise27Places();
    promise27LowestBits();
    promise28Refused();
    promise28Outside();
    promise28None();
    promise28AsTheyWere();
    promise28OnlyThose();
    promise29Bad();
    promise29UnlikeAndMissing();
    promise29Outside();
    promise29WhatStoodAheadCame();
    promise29LeftOut();
    promise29Full();
    promise29None();
    promise30Refused();
    promise30KindOrUnder();
    promise30Number();
    DUE.end("BoundsOfHostTest");
  }

  private static final int[] NO_SHEETS = {-1, 4, LEAST, MOST};

  /** What an item tells, by the AIM of a STROKE that is taken from SHEET 3 and goes again; -1: no CELL. */
  private static int item(MiddleOfCourt x, int sheet, int sort, int i) {
    x.sheet(3, sort, 3);
    DUE.is("an item to look at", x.copy(sheet, i, 3, 2, 1), 1);
    x.image();
    int came = x.strokes(3, sort, 0, 1);
    int aim = came == 1 ? x.told(x.count(0) - 1, 5) : -1;
    x.back();
    return aim;
  }

  private static void tells(MiddleOfCourt x, int sheet, int sort, int... want) {
    DUE.is("so many items", x.copy(sheet, want.length, sheet, 0, 0), 0);
    DUE.is("no more", x.copy(sheet, want.length + 1, sheet, 0, 0), -12);
    for (int i = 0; i < want.length; i++) {
      DUE.is("item " + i, item(x, sheet, sort, i), want[i]);
    }
  }

  // ---- promise 26

  private static void promise26Bad() {
    DUE.promise(26, "BAD: no such SHEET, sort; n above 40");
    MiddleOfCourt x = new MiddleOfCourt();
    for (int sheet : NO_SHEETS) {
      DUE.is("sheet(" + sheet + ", 0, 1)", x.sheet(sheet, 0, 1), -2);
      DUE.is("sheet(" + sheet + ", -1, 1)", x.sheet(sheet, -1, 1), -2);
    }
    for (int sort : new int[] {-2, 3, LEAST, MOST}) {
      DUE.is("sheet(0, " + sort + ", 1)", x.sheet(0, sort, 1), -2);
    }
    for (int sort = 0; sort < 3; sort++) {
      DUE.is("n 41", x.sheet(0, sort, 41), -2);
      DUE.is("the most n", x.sheet(0, sort, MOST), -2);
    }
    DUE.is("still missing", x.cell(0, 0, 0), -11);
    for (int s = 0; s < 4; s++) {
      DUE.is("sheet(" + s + ", 0, 1)", x.sheet(s, 0, 1), 1);
    }
    DUE.promise(26, "BAD; -14: the first that the words name");
    DUE.is("no such SHEET ahead of -14", x.sheet(4, 0, -1), -2);
    DUE.is("no such SHEET ahead of -14", x.sheet(-1, 2, LEAST), -2);
    DUE.is("no such sort ahead of -14", x.sheet(0, 3, -1), -2);
    DUE.is("no such sort ahead of -14", x.sheet(0, -2, -1), -2);
  }

  private static void promise26Sizes() {
    DUE.promise(26, "40 items of a SHEET: n 0 .. 40");
    for (int sort = 0; sort < 3; sort++) {
      for (int n : new int[] {0, 1, 39, 40}) {
        MiddleOfCourt x = new MiddleOfCourt();
        DUE.is("sheet(2, " + sort + ", " + n + ")", x.sheet(2, sort, n), 1);
        DUE.is("its last item", x.cell(2, n - 1, 3), n == 0 ? -12 : 1);
        DUE.is("behind it", x.cell(2, n, 3), -12);
        for (int other = 0; other < 3; other++) {
          DUE.is("of that sort", x.strokes(2, other, 0, 0), other == sort ? 0 : -13);
        }
        DUE.is("another one is missing", x.cell(1, 0, 0), -11);
        DUE.is("another one is missing", x.cell(3, 0, 0), -11);
      }
    }
  }

  private static void promise26BelowNothing() {
    DUE.promise(26, "-14: a size below 0");
    MiddleOfCourt x = new MiddleOfCourt();
    Due.sheet(x, 1, 5, 6);
    for (int sort = 0; sort < 3; sort++) {
      for (int n : new int[] {-1, -2, -40, LEAST}) {
        DUE.is("sheet(0, " + sort + ", " + n + ")", x.sheet(0, sort, n), -14);
        DUE.is("sheet(1, " + sort + ", " + n + ")", x.sheet(1, sort, n), -14);
      }
    }
    DUE.is("still missing", x.cell(0, 0, 0), -11);
    tells(x, 1, 2, 5, 6);
  }

  private static void promise26Missing() {
    DUE.promise(26, "or missing (sort -1: n does not matter): 1");
    MiddleOfCourt x = new MiddleOfCourt();
    for (int n : new int[] {0, 1, 40, 41, -1, LEAST, MOST}) {
      DUE.is("sheet(0, -1, " + n + ")", x.sheet(0, -1, n), 1);
      DUE.is("it is missing", x.cell(0, 0, 0), -11);
      x.sheet(0, 0, 40);
      DUE.is("sheet(0, -1, " + n + ") of a row", x.sheet(0, -1, n), 1);
      DUE.is("it is missing", x.cell(0, 0, 0), -11);
      DUE.is("it is missing", x.rally(0, 0), -11);
    }
  }

  private static void promise26AllZero() {
    DUE.promise(26, "a row of n of a sort, all 0");
    MiddleOfCourt x = new MiddleOfCourt();
    for (int sort = 0; sort < 3; sort++) {
      x.sheet(0, sort, 40);
      for (int i = 0; i < 40; i++) {
        x.cell(0, i, 24);
      }
      x.sheet(0, sort, 3);
      tells(x, 0, sort, 0, 0, 0);
      x.cell(0, 1, 24);
      x.sheet(0, -1, 0);
      x.sheet(0, sort, 40);
      DUE.is("its first", item(x, 0, sort, 0), 0);
      DUE.is("its second", item(x, 0, sort, 1), 0);
      DUE.is("its last", item(x, 0, sort, 39), 0);
    }
  }

  // ---- promise 27

  private static void promise27Refused() {
    DUE.promise(27, "BAD: no such SHEET; -11; -12: the first that the words name");
    MiddleOfCourt x = new MiddleOfCourt();
    for (int sheet : NO_SHEETS) {
      DUE.is("cell(" + sheet + ", 0, 0)", x.cell(sheet, 0, 0), -2);
      DUE.is("cell(" + sheet + ", -1, 0)", x.cell(sheet, -1, 0), -2);
    }
    for (int s = 0; s < 4; s++) {
      for (int i : new int[] {0, -1, 40, LEAST, MOST}) {
        DUE.is("missing ahead of outside, item " + i, x.cell(s, i, 0), -11);
      }
    }
  }

  private static void promise27Places() {
    DUE.promise(27, "Item i of a SHEET becomes v: 1; -12");
    for (int n : new int[] {0, 1, 2, 39, 40}) {
      MiddleOfCourt x = new MiddleOfCourt();
      x.sheet(0, 2, n);
      for (int i : new int[] {-1, n, n + 1, 41, LEAST, MOST}) {
        DUE.is("item " + i + " of " + n, x.cell(0, i, 1), -12);
      }
      for (int i = 0; i < n; i++) {
        DUE.is("item " + i + " of " + n, x.cell(0, i, i % 25), 1);
      }
      if (n > 0) {
        DUE.is("the first", item(x, 0, 2, 0), 0);
        DUE.is("the last", item(x, 0, 2, n - 1), (n - 1) % 25);
      }
    }
  }

  private static void promise27LowestBits() {
    DUE.promise(27, "of bytes, shorts its lowest 8, 16 bits");
    int[] put = {7, 256 + 7, 65536 + 7, 16777216 + 7, -256 + 7, -65536 + 7, LEAST + 7, 255 * 256 + 7};
    int[][] want = {
      {7, 7, 7, 7, 7, 7, 7, 7}, {7, -1, 7, 7, -1, 7, 7, -1}, {7, -1, -1, -1, -1, -1, -1, -1}
    };
    for (int sort = 0; sort < 3; sort++) {
      MiddleOfCourt x = new MiddleOfCourt();
      for (int i = 0; i < put.length; i++) {
        x.sheet(0, sort, 1);
        DUE.is("cell", x.cell(0, 0, put[i]), 1);
        DUE.is(put[i] + " of sort " + sort, item(x, 0, sort, 0), want[sort][i]);
      }
      for (int none : new int[] {25, 127, 128, 255, -1, -128, 32767, 32768 + 128, MOST}) {
        x.cell(0, 0, none);
        DUE.is(none + " of sort " + sort, item(x, 0, sort, 0), -1);
      }
      x.cell(0, 0, 32768);
      DUE.is("32768 of sort " + sort, item(x, 0, sort, 0), sort == 0 ? 0 : -1);
      x.cell(0, 0, LEAST);
      DUE.is("the least of sort " + sort, item(x, 0, sort, 0), sort < 2 ? 0 : -1);
    }
  }

  // ---- promise 28

  private static void promise28Refused() {
    DUE.promise(28, "BAD: no such SHEET; -11; -13: they are of unlike sorts; -12: the first that the words name");
    MiddleOfCourt x = new MiddleOfCourt();
    x.sheet(0, 0, 2);
    x.sheet(1, 1, 2);
    x.sheet(2, 2, 2);
    for (int sheet : NO_SHEETS) {
      DUE.is("from " + sheet, x.copy(sheet, 0, 0, 0, 1), -2);
      DUE.is("to " + sheet, x.copy(0, 0, sheet, 0, 1), -2);
      DUE.is("BAD ahead of missing", x.copy(sheet, 0, 3, 0, 1), -2);
      DUE.is("BAD ahead of missing", x.copy(3, 0, sheet, 0, 1), -2);
      DUE.is("BAD ahead of outside", x.copy(sheet, -1, 0, -1, -1), -2);
    }
    for (int s = 0; s < 3; s++) {
      DUE.is("from a missing one", x.copy(3, 0, s, 0, 1), -11);
      DUE.is("to a missing one", x.copy(s, 0, 3, 0, 1), -11);
      DUE.is("missing ahead of outside", x.copy(3, -1, s, 9, -1), -11);
      DUE.is("missing ahead of outside", x.copy(s, -1, 3, 9, -1), -11);
      for (int other = 0; other < 3; other++) {
        DUE.is("of sorts " + s + " and " + other, x.copy(s, 0, other, 0, 2), s == other ? 2 : -13);
        DUE.is("unlike ahead of outside", x.copy(s, -1, other, 9, -1), s == other ? -12 : -13);
        DUE.is("none of unlike ones", x.copy(s, 0, other, 0, 0), s == other ? 0 : -13);
      }
    }
    DUE.is("both are missing", x.copy(3, 0, 3, 0, 0), -11);
  }

  private static void promise28Outside() {
    DUE.promise(28, "-12 (also with n below 0)");
    MiddleOfCourt x = new MiddleOfCourt();
    Due.sheet(x, 0, 1, 2, 3, 4, 5);
    Due.sheet(x, 1, 6, 7, 8);
    int[][] outside = {
      {-1, 0, 1}, {0, -1, 1}, {-1, 0, 0}, {0, -1, 0}, {5, 0, 1}, {6, 0, 0}, {0, 3, 1}, {0, 4, 0}, {0, 0, 4},
      {0, 1, 3}, {3, 0, 3}, {4, 2, 2}, {0, 0, -1}, {5, 3, -1}, {2, 2, -2}, {0, 0, LEAST}, {0, 0, MOST},
      {LEAST, 0, 1}, {0, LEAST, 1}, {MOST, 0, 1}, {0, MOST, 1}, {MOST, MOST, MOST}, {1, 1, MOST},
      {LEAST, LEAST, LEAST}, {MOST, 0, 0}, {0, MOST, 0}, {6, 4, -1}
    };
    for (int[] c : outside) {
      DUE.is("copy(0, " + c[0] + ", 1, " + c[1] + ", " + c[2] + ")", x.copy(0, c[0], 1, c[1], c[2]), -12);
    }
    tells(x, 0, 2, 1, 2, 3, 4, 5);
    tells(x, 1, 2, 6, 7, 8);
    DUE.is("just inside", x.copy(0, 2, 1, 0, 3), 3);
    tells(x, 1, 2, 3, 4, 5);
    DUE.is("the last to the last", x.copy(0, 0, 1, 2, 1), 1);
    tells(x, 1, 2, 3, 4, 1);
  }

  private static void promise28None() {
    DUE.promise(28, "n numbers: none of them");
    MiddleOfCourt x = new MiddleOfCourt();
    Due.sheet(x, 0, 1, 2);
    Due.sheet(x, 1, 3);
    x.sheet(2, 2, 0);
    DUE.is("from the first", x.copy(0, 0, 1, 0, 0), 0);
    DUE.is("behind the last", x.copy(0, 2, 1, 1, 0), 0);
    DUE.is("of a row of none", x.copy(2, 0, 0, 0, 0), 0);
    DUE.is("to a row of none", x.copy(0, 2, 2, 0, 0), 0);
    DUE.is("one of a row of none", x.copy(2, 0, 0, 0, 1), -12);
    DUE.is("one to a row of none", x.copy(0, 0, 2, 0, 1), -12);
    tells(x, 0, 2, 1, 2);
    tells(x, 1, 2, 3);
  }

  private static void promise28AsTheyWere() {
    DUE.promise(28, "another one's item j on (as they were)");
    for (int sort = 0; sort < 3; sort++) {
      MiddleOfCourt x = new MiddleOfCourt();
      x.sheet(0, sort, 5);
      for (int i = 0; i < 5; i++) {
        x.cell(0, i, i + 1);
      }
      DUE.is("within itself, on", x.copy(0, 0, 0, 1, 4), 4);
      tells(x, 0, sort, 1, 1, 2, 3, 4);
      DUE.is("within itself, back", x.copy(0, 1, 0, 0, 4), 4);
      tells(x, 0, sort, 1, 2, 3, 4, 4);
      DUE.is("onto itself", x.copy(0, 0, 0, 0, 5), 5);
      tells(x, 0, sort, 1, 2, 3, 4, 4);
    }
  }

  private static void promise28OnlyThose() {
    DUE.promise(28, "n numbers of a SHEET, from item i on: 40 of them, and no others");
    MiddleOfCourt x = new MiddleOfCourt();
    x.sheet(0, 0, 40);
    x.sheet(1, 0, 40);
    for (int i = 0; i < 40; i++) {
      x.cell(0, i, i % 24 + 1);
    }
    DUE.is("one", x.copy(0, 5, 1, 38, 1), 1);
    DUE.is("ahead of it", item(x, 1, 0, 37), 0);
    DUE.is("it", item(x, 1, 0, 38), 6);
    DUE.is("behind it", item(x, 1, 0, 39), 0);
    DUE.is("all", x.copy(0, 0, 1, 0, 40), 40);
    DUE.is("the first", item(x, 1, 0, 0), 1);
    DUE.is("the last", item(x, 1, 0, 39), 16);
    DUE.is("where it came from", item(x, 0, 0, 39), 16);
    DUE.is("41", x.copy(0, 0, 1, 0, 41), -12);
  }

  // ---- promise 29

  private static void promise29Bad() {
    DUE.promise(29, "n of them (0 .. 6); BAD: no such SHEET, sort, n");
    MiddleOfCourt x = new MiddleOfCourt();
    x.sheet(0, 0, 18);
    for (int sheet : NO_SHEETS) {
      DUE.is("strokes(" + sheet + ", 0, 0, 1)", x.strokes(sheet, 0, 0, 1), -2);
    }
    for (int sort : new int[] {-1, -2, 3, LEAST, MOST}) {
      DUE.is("strokes(0, " + sort + ", 0, 1)", x.strokes(0, sort, 0, 1), -2);
      DUE.is("of a missing one", x.strokes(1, sort, 0, 1), -2);
    }
    for (int n : new int[] {-1, 7, LEAST, MOST}) {
      DUE.is("strokes(0, 0, 0, " + n + ")", x.strokes(0, 0, 0, n), -2);
      DUE.is("BAD ahead of unlike", x.strokes(0, 1, 0, n), -2);
      DUE.is("BAD ahead of missing", x.strokes(1, 0, 0, n), -2);
      DUE.is("BAD ahead of outside", x.strokes(0, 0, -1, n), -2);
    }
    DUE.is("none came", x.count(0), 0);
    DUE.is("the most", x.strokes(0, 0, 0, 6), 6);
    DUE.is("they came", x.count(0), 6);
    x.sheet(3, 2, 3);
    DUE.is("the least, of SHEET 3", x.strokes(3, 2, 0, 0), 0);
  }

  private static void promise29UnlikeAndMissing() {
    DUE.promise(29, "-13; -11; -12: the first that the words name; a missing one is of no other sort");
    MiddleOfCourt x = new MiddleOfCourt();
    for (int sort = 0; sort < 3; sort++) {
      x.sheet(sort, sort, 3);
      for (int taken = 0; taken < 3; taken++) {
        DUE.is("of sort " + sort + ", taken for " + taken, x.strokes(sort, taken, 0, 1), sort == taken ? 1 : -13);
        DUE.is("outside, of sort " + sort + ", taken for " + taken, x.strokes(sort, taken, 1, 1),
            sort == taken ? -12 : -13);
        DUE.is("none, of sort " + sort + ", taken for " + taken, x.strokes(sort, taken, 0, 0),
            sort == taken ? 0 : -13);
        DUE.is("missing, taken for " + taken, x.strokes(3, taken, 0, 1), -11);
        DUE.is("missing ahead of outside", x.strokes(3, taken, -1, 1), -11);
        DUE.is("missing, none of them", x.strokes(3, taken, 0, 0), -11);
      }
    }
    DUE.is("three came", x.count(0), 3);
  }

  private static void promise29Outside() {
    DUE.promise(29, "from one on, three by three; -12");
    for (int size : new int[] {0, 1, 2, 3, 4, 5, 6}) {
      for (int from : new int[] {LEAST, LEAST + 2, -4, -3, -2, -1, 0, 1, 2, 3, 4, 6, MOST - 2, MOST - 1, MOST}) {
        MiddleOfCourt x = new MiddleOfCourt();
        x.sheet(0, 2, size);
        boolean inside = from >= 0 && from <= size - 3;
        DUE.is("one from " + from + " of " + size, x.strokes(0, 2, from, 1), inside ? 1 : -12);
        DUE.is("as many came", x.count(0), inside ? 1 : 0);
      }
    }
    MiddleOfCourt x = new MiddleOfCourt();
    x.sheet(0, 0, 40);
    DUE.is("the last three", x.strokes(0, 0, 37, 1), 1);
    DUE.is("behind them", x.strokes(0, 0, 38, 1), -12);
    DUE.is("the last two rows of three", x.strokes(0, 0, 34, 2), 2);
  }

  private static void promise29WhatStoodAheadCame() {
    DUE.promise(29, "-12: what stood ahead came");
    for (int whole = 0; whole <= 5; whole++) {
      for (int more = 0; more <= 2; more++) {
        MiddleOfCourt x = new MiddleOfCourt();
        x.sheet(0, 1, 3 * whole + more);
        for (int i = 0; i < whole; i++) {
          x.cell(0, 3 * i, i);
          x.cell(0, 3 * i + 1, 9 - i);
          x.cell(0, 3 * i + 2, 24 - i);
        }
        DUE.is("6 of " + whole, x.strokes(0, 1, 0, 6), -12);
        DUE.is("what stood ahead came", x.count(0), whole);
        for (int i = 0; i < whole; i++) {
          DUE.is("KIND", x.told(i, 6), i);
          DUE.is("NUMBER", x.told(i, 4), 9 - i);
          DUE.is("AIM", x.told(i, 5), 24 - i);
        }
        DUE.is("as many as there are", x.strokes(0, 1, 0, whole), Math.min(whole, 6 - whole));
      }
    }
  }

  private static void promise29LeftOut() {
    DUE.promise(29, "how many came (others are left out)");
    int[][] bad = {{-1, 0, 0}, {6, 0, 0}, {0, -1, 0}, {0, 10, 0}, {0, 0, -1}, {0, 0, 25}};
    for (int[] b : bad) {
      for (int at = 0; at < 3; at++) {
        MiddleOfCourt x = new MiddleOfCourt();
        Due.sheet(x, 0, 1, 2, 3, 4, 5, 6, 5, 9, 24);
        for (int i = 0; i < 3; i++) {
          x.cell(0, 3 * at + i, b[i]);
        }
        DUE.is("two of three", x.strokes(0, 2, 0, 3), 2);
        DUE.is("so many", x.count(0), 2);
        DUE.is("KIND of the first", x.told(0, 6), at == 0 ? 4 : 1);
        DUE.is("KIND of the second", x.told(1, 6), at == 2 ? 4 : 5);
        DUE.is("it alone", x.strokes(0, 2, 3 * at, 1), 0);
      }
    }
  }

  private static void promise29Full() {
    DUE.promise(29, "others are left out: also those that have no room");
    for (int there = 0; there <= 6; there++) {
      MiddleOfCourt x = new MiddleOfCourt();
      for (int i = 0; i < there; i++) {
        x.stroke(0, 0, 0);
      }
      x.sheet(0, 0, 18);
      DUE.is("6 to " + there, x.strokes(0, 0, 0, 6), 6 - there);
      DUE.is("six", x.count(0), 6);
      DUE.is("none has room", x.strokes(0, 0, 0, 6), 0);
      DUE.is("outside, too", x.strokes(0, 0, 1, 6), -12);
    }
  }

  private static void promise29None() {
    DUE.promise(29, "n of them (0 .. 6): none, so no place is asked for");
    MiddleOfCourt x = new MiddleOfCourt();
    x.sheet(0, 0, 0);
    for (int from : new int[] {0, 1, -1, 40, LEAST, MOST}) {
      DUE.is("strokes(0, 0, " + from + ", 0)", x.strokes(0, 0, from, 0), 0);
    }
    DUE.is("none came", x.count(0), 0);
  }

  // ---- promise 30

  private static void promise30Refused() {
    DUE.promise(30, "KIND k (0 .. 5); BAD: k; -11: no such STROKE; -13: the first that the words name");
    MiddleOfCourt x = new MiddleOfCourt();
    for (int k = 0; k <= 5; k++) {
      DUE.is("no STROKES", x.taken(0, k), -11);
    }
    x.stroke(0, 4, 0);
    x.stroke(0, 5, 0);
    for (int k : new int[] {-1, 6, LEAST, MOST}) {
      DUE.is("taken(0, " + k + ")", x.taken(0, k), -2);
      DUE.is("BAD ahead of no such STROKE", x.taken(2, k), -2);
      DUE.is("BAD ahead of no such STROKE", x.taken(-1, k), -2);
    }
    for (int stroke : new int[] {-1, 2, 6, LEAST, MOST}) {
      DUE.is("taken(" + stroke + ", 0)", x.taken(stroke, 0), -11);
      DUE.is("no such STROKE ahead of -13", x.taken(stroke, 5), -11);
    }
    DUE.is("the last STROKE", x.taken(1, 0), 5);
    DUE.is("of another KIND", x.taken(1, 5), -13);
  }

  private static void promise30KindOrUnder() {
    DUE.promise(30, "one of KIND k (0 .. 5), or one under that one (also by others between)");
    boolean[][] under = {
      {true, false, false, false, false, false}, {true, true, false, false, false, false},
      {true, false, true, false, false, false}, {true, true, false, true, false, false},
      {true, false, true, false, true, false}, {true, true, false, false, false, true}
    };
    MiddleOfCourt x = new MiddleOfCourt();
    for (int kind = 0; kind < 6; kind++) {
      x.stroke(kind, kind + 2, 0);
      for (int k = 0; k < 6; k++) {
        DUE.is("KIND " + kind + " taken for " + k, x.taken(kind, k), under[kind][k] ? kind + 2 : -13);
      }
    }
  }

  private static void promise30Number() {
    DUE.promise(30, "its NUMBER: 0 .. 9, as it is now");
    MiddleOfCourt x = new MiddleOfCourt();
    x.stroke(3, 0, 0);
    DUE.is("0", x.taken(0, 3), 0);
    DUE.is("0", x.taken(0, 0), 0);
    x.set(4, 0, 9);
    DUE.is("9", x.taken(0, 3), 9);
    DUE.is("9", x.taken(0, 1), 9);
    DUE.is("it stays of its KIND", x.taken(0, 2), -13);
  }
}
