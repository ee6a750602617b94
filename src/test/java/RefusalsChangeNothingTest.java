import java.util.function.Supplier;

/**
 * Refusals change nothing; nor do the calls that only tell. Of two objects made alike one is called:
 * all that can be asked of both is the same then.
 */
public final class RefusalsChangeNothingTest {
  private static final Due DUE = new Due();
  private static final int LEAST = Integer.MIN_VALUE, MOST = Integer.MAX_VALUE;
  private static final int BAD = -2, STATE = -3, FULL = -4, NOTHING = -11, OUTSIDE = -12, UNLIKE = -13;
  private static final long NO = -4611686018427387904L;

  private interface Method {
    long with(MiddleOfCourt x, int[] a);
  }

  public static void main(String[] args) {
    twinsTellChanges();
    players();
    strokes();
    texts();
    rallies();
    bests();
    seenBalls();
    films();
    images();
    sheets();
    copies();
    strokesOfSheets();
    telling();
    faults();
    DUE.end("RefusalsChangeNothingTest");
  }

  private static void refused(int promise, long want, Supplier<MiddleOfCourt> made, Method method, int[]... calls) {
    DUE.promise(promise, "Refusals change nothing");
    for (int[] a : calls) {
      String call = java.util.Arrays.toString(a);
      DUE.is("a call with " + call, method.with(made.get(), a), want);
      DUE.is("nothing changes by a call with " + call, Twins.leavesAll(made, x -> method.with(x, a)) ? 1 : 0, 1);
    }
  }

  /** Would a change be seen? Of each kind one is made. */
  private static void twinsTellChanges() {
    DUE.promise(0, "the twins tell whatever changes");
    Twins.Call[] changes = {
      x -> x.set(0, 0, 4), x -> x.set(1, 1, 499), x -> x.set(2, 0, 3), x -> x.set(3, 1, 0), x -> x.set(4, 2, 2),
      x -> x.set(5, 2, 22), x -> x.set(6, 0, 18), x -> x.stroke(0, 0, 0), x -> x.feed(32), x -> x.text(),
      x -> x.force(0), x -> x.play(0), x -> x.film(1, 0), x -> x.image(), x -> x.back(), x -> x.sheet(0, 0, 5),
      x -> x.sheet(3, 0, 0), x -> x.sheet(2, -1, 0), x -> x.sheet(1, 0, 3), x -> x.cell(0, 3, 0), x -> x.cell(1, 2, 8),
      x -> x.cell(2, 1, 7), x -> x.copy(0, 1, 0, 0, 1)
    };
    for (int i = 0; i < changes.length; i++) {
      DUE.is("change " + i, Twins.leavesAll(Twins::some, changes[i]) ? 1 : 0, 0);
    }
    DUE.is("no change", Twins.leavesAll(Twins::full, x -> 0) ? 1 : 0, 1);
  }

  private static void players() {
    Method set = (x, a) -> x.set(a[0], a[1], a[2]);
    refused(2, -100, Twins::some, set, new int[][] {
      {-1, 0, 0}, {7, 0, 0}, {LEAST, 0, 0}, {MOST, 0, 0}, {0, -1, 0}, {0, 2, 0}, {0, 0, -1}, {0, 0, 25},
      {1, -1, 0}, {1, 2, 0}, {1, 0, -1}, {1, 0, 1000}, {2, -1, 0}, {2, 2, 0}, {2, 0, -1}, {2, 0, 10},
      {3, -1, 0}, {3, 2, 0}, {3, 0, -2}, {3, 0, 25}, {4, -1, 0}, {4, 3, 0}, {4, 0, -1}, {4, 0, 10},
      {5, -1, 0}, {5, 3, 0}, {5, 0, -1}, {5, 0, 25}, {6, 0, -1}, {6, 0, 100}, {6, 0, LEAST}, {6, 0, MOST}
    });
    refused(2, -100, Twins::full, set, new int[][] {{4, 6, 0}, {5, 6, 0}, {4, 5, 10}, {5, 5, 25}, {6, 5, 100}});
    refused(4, -100, Twins::some, (x, a) -> x.told(a[0], a[1]), new int[][] {
      {0, -1}, {0, 7}, {2, 0}, {-1, 3}, {3, 4}, {-1, 5}, {3, 6}
    });
    refused(5, BAD, Twins::some, (x, a) -> x.shot(a[0], a[1], a[2]), new int[][] {
      {-1, 0, 0}, {2, 0, 0}, {0, -1, 0}, {0, 3, 0}, {0, 0, -1}, {0, 0, 5}
    });
    refused(6, BAD, Twins::some, (x, a) -> x.needs(a[0], a[1]), new int[][] {
      {-1, 0}, {2, 0}, {0, -1}, {0, 25}, {0, 2500}
    });
  }

  private static void strokes() {
    Method stroke = (x, a) -> x.stroke(a[0], a[1], a[2]);
    int[][] bad = {{-1, 0, 0}, {6, 0, 0}, {0, -1, 0}, {0, 10, 0}, {0, 0, -1}, {0, 0, 25}};
    refused(3, BAD, Twins::bare, stroke, bad);
    refused(3, BAD, Twins::some, stroke, bad);
    refused(3, BAD, Twins::full, stroke, bad);
    refused(3, FULL, Twins::full, stroke, new int[][] {{0, 0, 0}, {5, 9, 24}});
    Method taken = (x, a) -> x.taken(a[0], a[1]);
    refused(30, BAD, Twins::some, taken, new int[][] {{0, -1}, {0, 6}, {9, 6}});
    refused(30, NOTHING, Twins::some, taken, new int[][] {{-1, 0}, {3, 0}});
    refused(30, UNLIKE, Twins::some, taken, new int[][] {{0, 2}, {1, 1}, {2, 3}});
  }

  private static void texts() {
    Method feed = (x, a) -> x.feed(a[0]);
    refused(7, BAD, Twins::some, feed, new int[][] {{-1}, {256}, {LEAST}, {MOST}});
    refused(7, BAD, Twins::full, feed, new int[][] {{-1}, {256}});
    refused(7, FULL, Twins::full, feed, new int[][] {{0}, {32}, {255}});
    refused(8, FULL, Twins::full, (x, a) -> x.text(), new int[][] {{}});
    Method force = (x, a) -> x.force(a[0]);
    refused(9, BAD, Twins::some, force, new int[][] {{-1}, {3}, {LEAST}, {MOST}});
    refused(9, BAD, Twins::full, force, new int[][] {{-1}, {6}});
  }

  private static void rallies() {
    Method rally = (x, a) -> x.rally(a[0], a[1]);
    refused(10, BAD, Twins::some, rally, new int[][] {{-1, 0}, {4, 0}, {0, -1}, {0, 7}, {3, 7}, {1, 0}, {2, 0}});
    refused(10, NOTHING, Twins::some, rally, new int[][] {{3, 0}, {3, 6}});
    Method play = (x, a) -> x.play(a[0]);
    refused(11, BAD, Twins::some, play, new int[][] {{-1}, {4}, {1}, {2}, {LEAST}, {MOST}});
    refused(11, NOTHING, Twins::some, play, new int[][] {{3}});
    refused(11, BAD, Twins::full, play, new int[][] {{3}});
    refused(11, BAD, () -> lastIsNone(Twins.some()), play, new int[][] {{0}});
    refused(12, NO, Twins::some, (x, a) -> x.likely(a[0]), new int[][] {{-1}, {4}, {1}, {2}, {3}});
    Method way = (x, a) -> x.inTheWay(a[0]);
    refused(17, BAD, Twins::some, way, new int[][] {{-1}, {4}, {1}, {2}});
    refused(17, NOTHING, Twins::some, way, new int[][] {{3}});
  }

  /** SHEET 0 tells STROKES, but for its last item. */
  private static MiddleOfCourt lastIsNone(MiddleOfCourt x) {
    x.cell(0, 3, 6);
    return x;
  }

  private static void bests() {
    refused(13, -100, Twins::some, (x, a) -> x.best(a[0], a[1], a[2]), new int[][] {
      {-1, 1, 0}, {2, 1, 0}, {0, -1, 0}, {0, 6, 0}, {0, 1, -1}, {0, 1, 2}
    });
    refused(14, BAD, Twins::some, (x, a) -> x.sure(a[0]), new int[][] {{-1}, {2}});
    refused(15, -100000, Twins::some, (x, a) -> x.stand(a[0], a[1]), new int[][] {{-1, 0}, {2, 0}, {0, -1}, {0, 2}});
    refused(16, BAD, Twins::some, (x, a) -> x.tires(a[0]), new int[][] {{-1}, {2}});
  }

  private static void seenBalls() {
    Method balls = (x, a) -> x.balls(a[0], a[1]);
    refused(18, BAD, Twins::some, balls, new int[][] {{-1, 0}, {4, 0}, {0, -1}, {0, 2}, {3, 2}});
    refused(18, NOTHING, Twins::some, balls, new int[][] {{3, 0}, {3, 1}});
    refused(18, BAD, Twins::full, balls, new int[][] {{0, 0}, {1, 1}});
    Method quicks = (x, a) -> x.quicks(a[0], a[1], a[2]);
    refused(19, BAD, Twins::some, quicks, new int[][] {
      {-1, 0, 0}, {4, 0, 0}, {0, -1, 0}, {0, 3, 0}, {0, 0, -2}, {0, 0, 2}, {1, 0, 0}, {2, 2, 0}
    });
    refused(19, NOTHING, Twins::some, quicks, new int[][] {{3, 0, 0}, {3, 2, -1}});
    refused(22, NO, Twins::some, (x, a) -> x.chance(a[0], a[1], a[2]), new int[][] {
      {0, 0, 0}, {0, 21, 0}, {0, 1, -1}, {0, 1, 2}
    });
    refused(25, BAD, Twins::some, (x, a) -> x.count(a[0]), new int[][] {{-1}, {5}});
  }

  private static void films() {
    Method film = (x, a) -> x.film(a[0], a[1]);
    refused(20, BAD, Twins::some, film, new int[][] {
      {-1, 0}, {4, 0}, {0, -1}, {0, 4}, {4, 3}, {0, 1}, {0, 2}, {1, 1}, {2, 2}, {3, 1}
    });
    refused(20, NOTHING, Twins::some, film, new int[][] {{0, 3}, {2, 3}, {3, 3}});
    refused(20, BAD, () -> lastIsNone(Twins.some()), film, new int[][] {{0, 0}, {1, 0}, {3, 0}});
  }

  private static void images() {
    Method back = (x, a) -> x.back();
    refused(24, STATE, Twins::bare, back, new int[][] {{}});
    refused(24, STATE, RefusalsChangeNothingTest::withoutImage, back, new int[][] {{}});
  }

  private static MiddleOfCourt withoutImage() {
    MiddleOfCourt x = new MiddleOfCourt();
    x.stroke(4, 3, 2);
    x.set(0, 0, 2);
    x.set(6, 0, 9);
    return x;
  }

  private static void sheets() {
    Method sheet = (x, a) -> x.sheet(a[0], a[1], a[2]);
    refused(26, BAD, Twins::some, sheet, new int[][] {
      {-1, 0, 1}, {4, 0, 1}, {0, -2, 1}, {0, 3, 1}, {0, 0, 41}, {3, 0, 41}, {2, 2, MOST}, {4, 0, -1}, {4, -1, 0}
    });
    refused(26, -14, Twins::some, sheet, new int[][] {{0, 0, -1}, {1, 1, -1}, {2, 2, LEAST}, {3, 0, -1}});
    Method cell = (x, a) -> x.cell(a[0], a[1], a[2]);
    refused(27, BAD, Twins::some, cell, new int[][] {{-1, 0, 0}, {4, 0, 0}});
    refused(27, NOTHING, Twins::some, cell, new int[][] {{3, 0, 0}, {3, -1, 0}});
    refused(27, OUTSIDE, Twins::some, cell, new int[][] {
      {0, -1, 9}, {0, 4, 9}, {1, 3, 9}, {2, 2, 9}, {2, LEAST, 9}, {2, MOST, 9}
    });
    refused(27, OUTSIDE, Twins::full, cell, new int[][] {{0, 40, 9}, {0, -1, 9}, {3, 4, 9}});
  }

  private static void copies() {
    Method copy = (x, a) -> x.copy(a[0], a[1], a[2], a[3], a[4]);
    refused(28, BAD, Twins::some, copy, new int[][] {{-1, 0, 0, 0, 1}, {0, 0, 4, 0, 1}, {4, 0, 3, 0, 1}});
    refused(28, NOTHING, Twins::some, copy, new int[][] {{3, 0, 0, 0, 1}, {0, 0, 3, 0, 1}, {3, 0, 3, 0, 0}});
    refused(28, UNLIKE, Twins::some, copy, new int[][] {
      {0, 0, 1, 0, 1}, {1, 0, 0, 0, 1}, {1, 0, 2, 0, 1}, {2, 0, 1, 0, 1}, {2, 0, 0, 0, 1}, {0, 0, 2, 0, 1}
    });
    refused(28, OUTSIDE, Twins::some, copy, new int[][] {
      {0, -1, 0, 0, 1}, {0, 0, 0, -1, 1}, {0, 1, 0, 0, 4}, {0, 0, 0, 1, 4}, {0, 1, 0, 2, 3}, {0, 1, 0, 0, -1},
      {2, 1, 2, 0, 2}, {2, 0, 2, 1, 2}, {1, 1, 1, 0, MOST}, {1, 0, 1, 1, LEAST}
    });
    refused(28, OUTSIDE, Twins::full, copy, new int[][] {{0, 0, 3, 0, 5}, {3, 0, 0, 38, 3}, {0, 1, 0, 0, 40}});
  }

  private static void strokesOfSheets() {
    Method strokes = (x, a) -> x.strokes(a[0], a[1], a[2], a[3]);
    refused(29, BAD, Twins::some, strokes, new int[][] {
      {-1, 0, 0, 1}, {4, 0, 0, 1}, {0, -1, 0, 1}, {0, 3, 0, 1}, {0, 0, 0, -1}, {0, 0, 0, 7}, {3, 0, 0, 7}
    });
    refused(29, UNLIKE, Twins::some, strokes, new int[][] {{0, 1, 0, 1}, {0, 2, 0, 1}, {1, 0, 0, 1}, {2, 0, -1, 1}});
    refused(29, NOTHING, Twins::some, strokes, new int[][] {{3, 0, 0, 1}, {3, 2, -1, 1}});
    refused(29, OUTSIDE, Twins::some, strokes, new int[][] {{0, 0, 2, 1}, {0, 0, -1, 1}, {1, 1, 1, 1}, {2, 2, 0, 1}});
    refused(29, 0, Twins::full, strokes, new int[][] {{0, 0, 0, 6}, {1, 1, 0, 1}, {2, 2, 37, 1}});
    refused(29, OUTSIDE, Twins::full, strokes, new int[][] {{0, 0, 38, 1}, {0, 0, 34, 6}});
  }

  private static void same(int promise, String sentence, Twins.Call call) {
    DUE.promise(promise, sentence);
    DUE.is("nothing changes", Twins.leavesAll(Twins::some, call) ? 1 : 0, 1);
    DUE.is("nothing changes, full", Twins.leavesAll(Twins::full, call) ? 1 : 0, 1);
  }

  private static void telling() {
    same(4, "told() only tells", x -> x.told(0, 0) + x.told(1, 6));
    same(5, "shot() only tells", x -> x.shot(0, 1, 1) + x.shot(1, 2, 4));
    same(6, "needs() only tells", x -> x.needs(1, 24));
    same(10, "A RALLY, in thought", x -> x.rally(0, 0) + x.rally(0, 6));
    same(12, "LIKELY, in thought", x -> x.likely(0));
    same(13, "VALUE, BEST, in thought", x -> x.best(0, 5, 0) + x.best(1, 4, 1));
    same(14, "SURE, in thought", x -> x.sure(0) + x.sure(1));
    same(15, "STAND, in thought", x -> x.stand(0, 0) + x.stand(1, 1));
    same(16, "TIRES, in thought", x -> x.tires(0) + x.tires(1));
    same(17, "IN THE WAY, in thought", x -> x.inTheWay(0));
    same(18, "BALLS, in thought", x -> x.balls(0, 0) + x.balls(3, 0));
    same(19, "QUICKS, in thought", x -> x.quicks(0, 0, 0) + x.quicks(0, 1, 1) + x.quicks(0, 2, -1));
    same(21, "DRAWN by a SEED, in thought", x -> x.drawn(5) + x.drawn(-5));
    same(22, "IN n seeds, in thought", x -> x.chance(3, 20, 0));
    same(25, "count() only tells", x -> x.count(0) + x.count(4));
    same(30, "taken() only tells", x -> x.taken(0, 1));
    DUE.promise(20, "A SHEET truly becomes: the RALLY is in thought, no other SHEET changes");
    DUE.is("as if its items were put", Twins.alike(Twins::some, x -> x.film(3, 0), x -> {
      int n = x.rally(0, 1);
      int[] cells = {10, 9, 23, 9};
      x.sheet(3, 0, n);
      for (int i = 0; i < n; i++) {
        x.cell(3, i, cells[i]);
      }
      return n;
    }) ? 1 : 0, 1);
  }

  private static void faults() {
    DUE.promise(8, "THE TAPE is empty then by a FAULT, too: nothing else changes");
    DUE.is("nothing else", Twins.alike(RefusalsChangeNothingTest::withoutImage,
        x -> Due.text(x, "flies 1;steps 2;slips 3 3;"), x -> 0) ? 1 : 0, 1);
    DUE.is("behind other TEXTS", Twins.alike(() -> emptyTape(Twins.some()),
        x -> Due.text(x, "flies 1;steps 2;slips 3 3;"), x -> 0) ? 1 : 0, 1);
    DUE.promise(24, "All that it keeps is as in THE IMAGE: back() again changes nothing");
    DUE.is("back() again", Twins.alike(Twins::some, x -> x.back() + x.back(), x -> x.back()) ? 1 : 0, 1);
    DUE.is("image() again", Twins.alike(Twins::some, x -> x.image() + x.image(), x -> x.image()) ? 1 : 0, 1);
    DUE.is("image(), back()", Twins.alike(Twins::some, x -> x.image() + x.back(), x -> x.image()) ? 1 : 0, 1);
  }

  private static MiddleOfCourt emptyTape(MiddleOfCourt x) {
    x.text();
    return x;
  }
}
