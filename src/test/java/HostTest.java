/** Promises 26 to 30: sheets, their cells, copies, strokes by a sheet, strokes taken for a kind. */
public final class HostTest {
  private static final Due DUE = new Due();

  public static void main(String[] args) {
    sheets();
    cells();
    copies();
    strokesBySheet();
    strokesRefuse();
    takenFor();
    DUE.end("HostTest");
  }

  /** What stands in a sheet, told by the aim of a stroke that is taken from it; -1: no cell. */
  private static int told(MiddleOfCourt x, int sheet, int sort, int i) {
    x.sheet(3, sort, 3);
    x.copy(sheet, i, 3, 2, 1);
    x.image();
    int came = x.strokes(3, sort, 0, 1);
    int aim = came == 1 ? x.told(x.count(0) - 1, 5) : -1;
    x.back();
    return aim;
  }

  private static void sheets() {
    MiddleOfCourt x = new MiddleOfCourt();
    int[][] bad = {{-1, 0, 1}, {4, 0, 1}, {0, -2, 1}, {0, 3, 1}, {0, 0, 41}, {4, 0, -1}, {0, 3, -1}};
    for (int[] b : bad) {
      DUE.is("bad sheet", x.sheet(b[0], b[1], b[2]), -2);
    }
    DUE.is("n -1", x.sheet(0, 0, -1), -14);
    DUE.is("n least", x.sheet(0, 2, Integer.MIN_VALUE), -14);
    DUE.is("n most", x.sheet(0, 2, Integer.MAX_VALUE), -2);
    DUE.is("missing still", x.cell(0, 0, 0), -11);
    DUE.is("a row", x.sheet(0, 0, 40), 1);
    DUE.is("its last", x.cell(0, 39, 5), 1);
    DUE.is("behind it", x.cell(0, 40, 5), -12);
    DUE.is("refused", x.sheet(0, 0, 41), -2);
    DUE.is("nothing changed", told(x, 0, 0, 39), 5);
    DUE.is("anew", x.sheet(0, 0, 40), 1);
    DUE.is("all 0", told(x, 0, 0, 39), 0);
    DUE.is("missing", x.sheet(0, -1, -7), 1);
    DUE.is("nothing there", x.cell(0, 0, 0), -11);
    DUE.is("missing, n above 40", x.sheet(0, -1, 99), 1);
    DUE.is("of none", x.sheet(0, 1, 0), 1);
    DUE.is("outside", x.cell(0, 0, 0), -12);
  }

  private static void cells() {
    MiddleOfCourt x = new MiddleOfCourt();
    DUE.is("sheet 4", x.cell(4, 0, 0), -2);
    DUE.is("sheet -1", x.cell(-1, 0, 0), -2);
    DUE.is("missing", x.cell(0, -1, 0), -11);
    for (int sort = 0; sort < 3; sort++) {
      x.sheet(0, sort, 2);
      DUE.is("-1", x.cell(0, -1, 0), -12);
      DUE.is("2", x.cell(0, 2, 0), -12);
      DUE.is("1", x.cell(0, 1, 24), 1);
      DUE.is("24", told(x, 0, sort, 1), 24);
      x.cell(0, 1, 256 + 7);
      DUE.is("8 bits", told(x, 0, sort, 1), sort == 0 ? 7 : -1);
      x.cell(0, 1, 65536 * 3 + 9);
      DUE.is("16 bits", told(x, 0, sort, 1), sort < 2 ? 9 : -1);
      x.cell(0, 1, -256 + 7);
      DUE.is("8 bits, below 0", told(x, 0, sort, 1), sort == 0 ? 7 : -1);
      x.cell(0, 1, 128);
      DUE.is("no cell", told(x, 0, sort, 1), -1);
      DUE.is("the other item stays", told(x, 0, sort, 0), 0);
    }
  }

  private static void copies() {
    MiddleOfCourt x = new MiddleOfCourt();
    Due.sheet(x, 0, 1, 2, 3, 4, 5);
    Due.sheet(x, 1, 0, 0, 0);
    x.sheet(2, 1, 5);
    DUE.is("copy", x.copy(0, 1, 1, 0, 3), 3);
    DUE.is("2", told(x, 1, 2, 0), 2);
    DUE.is("4", told(x, 1, 2, 2), 4);
    DUE.is("none", x.copy(0, 5, 1, 3, 0), 0);
    int[][] outside = {
      {0, -1, 1, 0, 1}, {0, 0, 1, -1, 1}, {0, 0, 1, 0, -1}, {0, 0, 1, 0, 4}, {0, 3, 1, 0, 3},
      {0, 6, 1, 0, 0}, {0, 0, 1, 4, 0}, {0, 1, 1, 1, 3}, {0, 1, 1, 0, Integer.MAX_VALUE},
      {0, Integer.MAX_VALUE, 1, 0, 2}, {0, 0, 1, Integer.MAX_VALUE, 2}, {0, 0, 1, 0, Integer.MIN_VALUE}
    };
    for (int[] c : outside) {
      DUE.is("outside", x.copy(c[0], c[1], c[2], c[3], c[4]), -12);
    }
    DUE.is("unlike", x.copy(0, 0, 2, 0, 1), -13);
    DUE.is("unlike ahead of outside", x.copy(0, -1, 2, 0, -1), -13);
    DUE.is("missing", x.copy(0, 0, 3, 0, 1), 1);
    x.sheet(3, -1, 0);
    DUE.is("to a missing one", x.copy(0, -1, 3, 0, 1), -11);
    DUE.is("from a missing one", x.copy(3, 0, 0, 0, 1), -11);
    DUE.is("4", x.copy(4, 0, 3, 0, 1), -2);
    DUE.is("-1", x.copy(3, 0, -1, 0, 1), -2);
    DUE.is("onto itself, on", x.copy(0, 0, 0, 1, 4), 4);
    int[] want = {1, 1, 2, 3, 4};
    for (int i = 0; i < 5; i++) {
      DUE.is("as they were", told(x, 0, 2, i), want[i]);
    }
    DUE.is("onto itself, back", x.copy(0, 2, 0, 0, 3), 3);
    int[] then = {2, 3, 4, 3, 4};
    for (int i = 0; i < 5; i++) {
      DUE.is("as they were", told(x, 0, 2, i), then[i]);
    }
  }

  private static void strokesBySheet() {
    MiddleOfCourt x = new MiddleOfCourt();
    Due.sheet(x, 0, 9, 3, 4, 5, 6, 0, 0, 0, 25, 0, 10, 0, 2, 1, 7, 8);
    DUE.is("one from 1", x.strokes(0, 2, 1, 1), 1);
    DUE.is("kind", x.told(0, 6), 3);
    DUE.is("number", x.told(0, 4), 4);
    DUE.is("aim", x.told(0, 5), 5);
    DUE.is("bad ones are left out", x.strokes(0, 2, 4, 4), 1);
    DUE.is("what came", x.told(1, 6), 1);
    DUE.is("its number", x.told(1, 4), 7);
    DUE.is("its aim", x.told(1, 5), 8);
    DUE.is("none of them", x.strokes(0, 2, 4, 0), 0);
    DUE.is("what stood ahead came", x.strokes(0, 2, 10, 3), -12);
    DUE.is("it did", x.count(0), 3);
    DUE.is("the last one is cut off", x.strokes(0, 2, 14, 1), -12);
    DUE.is("nothing came", x.count(0), 3);
    DUE.is("the last whole one is read", x.strokes(0, 2, 13, 1), 1);
    DUE.is("-1", x.strokes(0, 2, -1, 1), -12);
    DUE.is("far outside", x.strokes(0, 2, Integer.MAX_VALUE, 6), -12);
    DUE.is("far below", x.strokes(0, 2, Integer.MIN_VALUE, 6), -12);
    x.sheet(1, 0, 18);
    DUE.is("only six have room", x.strokes(1, 0, 0, 6), 2);
    DUE.is("six", x.count(0), 6);
    DUE.is("full: all are left out", x.strokes(1, 0, 0, 6), 0);
    DUE.is("full and outside", x.strokes(1, 0, 1, 6), -12);
  }

  private static void strokesRefuse() {
    MiddleOfCourt x = new MiddleOfCourt();
    x.sheet(0, 1, 3);
    int[][] bad = {
      {-1, 1, 0, 1}, {4, 1, 0, 1}, {0, -1, 0, 1}, {0, 3, 0, 1}, {0, 1, 0, -1}, {0, 1, 0, 7}, {1, -1, 0, 1}
    };
    for (int[] b : bad) {
      DUE.is("bad strokes", x.strokes(b[0], b[1], b[2], b[3]), -2);
    }
    DUE.is("bytes", x.strokes(0, 0, -1, 1), -13);
    DUE.is("ints", x.strokes(0, 2, -1, 1), -13);
    DUE.is("missing", x.strokes(1, 2, -1, 1), -11);
    DUE.is("outside", x.strokes(0, 1, 1, 1), -12);
    DUE.is("none came", x.count(0), 0);
    DUE.is("one", x.strokes(0, 1, 0, 1), 1);
  }

  private static void takenFor() {
    MiddleOfCourt x = new MiddleOfCourt();
    DUE.is("k 6", x.taken(0, 6), -2);
    DUE.is("k -1", x.taken(0, -1), -2);
    DUE.is("no stroke", x.taken(0, 0), -11);
    int[][] under = {{0}, {0, 1}, {0, 2}, {0, 1, 3}, {0, 2, 4}, {0, 1, 5}};
    for (int kind = 0; kind < 6; kind++) {
      x.stroke(kind, 9 - kind, 0);
      for (int k = 0; k < 6; k++) {
        boolean is = false;
        for (int u : under[kind]) {
          is |= u == k;
        }
        DUE.is("kind " + kind + " for " + k, x.taken(kind, k), is ? 9 - kind : -13);
      }
    }
    DUE.is("-1", x.taken(-1, 0), -11);
    DUE.is("6", x.taken(6, 0), -11);
  }
}
