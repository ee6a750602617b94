import java.util.ArrayList;
import java.util.List;
import java.util.function.Supplier;

/**
 * Two objects made alike, of which one is called: whether all that can be asked of both is the same
 * then. What is asked changes the objects, so each kind of question has a pair of its own; and each
 * object stays under its 512 calls.
 */
final class Twins {
  interface Call {
    long on(MiddleOfCourt x);
  }

  private Twins() {
  }

  static MiddleOfCourt bare() {
    return new MiddleOfCourt();
  }

  /** Some of everything: an IMAGE of other things, SHEETS of each sort and a missing one. */
  static MiddleOfCourt some() {
    MiddleOfCourt x = new MiddleOfCourt();
    x.stroke(3, 4, 5);
    x.set(0, 0, 3);
    x.set(1, 1, 321);
    x.set(3, 1, -1);
    x.set(6, 0, 19);
    x.image();
    x.stroke(2, 7, 9);
    x.stroke(5, 1, 23);
    x.set(0, 1, 17);
    x.set(1, 0, 77);
    x.set(2, 0, 2);
    x.set(3, 0, 8);
    x.set(4, 0, 6);
    Due.text(x, "flies 7+far*2;steps quick;slips 3;");
    Due.text(x, "flies 30;steps 2;slips far;");
    x.force(2);
    Due.feed(x, "flies 1");
    row(x, 0, 0, 0, 1, 2, 1);
    row(x, 1, 1, 2, 2, 7);
    row(x, 2, 2, 17, 8);
    return x;
  }

  /** As much as there can be of everything. */
  static MiddleOfCourt full() {
    MiddleOfCourt x = new MiddleOfCourt();
    x.stroke(1, 9, 24);
    x.image();
    for (int kind = 1; kind < 6; kind++) {
      x.stroke(kind, 9, 24 - kind);
    }
    for (int p = 0; p < 2; p++) {
      x.set(0, p, 24);
      x.set(1, p, 999);
      x.set(2, p, 9);
      x.set(3, p, 24);
    }
    x.set(6, 0, 99);
    for (int i = 1; i < 6; i++) {
      Due.text(x, "flies" + i + "9;steps" + i + ";slips" + i + ";");
    }
    x.force(5);
    Due.feed(x, "flies".repeat(32));
    for (int s = 0; s < 3; s++) {
      x.sheet(s, s, 40);
      x.cell(s, 0, 5);
      x.cell(s, 39, 4);
    }
    row(x, 3, 0, 21, 22, 23, 24);
    return x;
  }

  private static void row(MiddleOfCourt x, int sheet, int sort, int... items) {
    x.sheet(sheet, sort, items.length);
    for (int i = 0; i < items.length; i++) {
      x.cell(sheet, i, items[i]);
    }
  }

  /** Whether an object is behind a call as it would be without it. */
  static boolean leavesAll(Supplier<MiddleOfCourt> made, Call call) {
    return alike(made, call, x -> 0);
  }

  /** Whether an object is behind a call as it would be behind another one. */
  static boolean alike(Supplier<MiddleOfCourt> made, Call call, Call other) {
    for (int question = 0; question < 7; question++) {
      MiddleOfCourt x = made.get();
      call.on(x);
      MiddleOfCourt y = made.get();
      other.on(y);
      if (!answers(x, question).equals(answers(y, question))) {
        return false;
      }
    }
    return true;
  }

  private static List<Long> answers(MiddleOfCourt x, int question) {
    List<Long> all = new ArrayList<>();
    if (question < 4) {
      items(x, question, all);
    } else if (question == 4) {
      telling(x, all);
    } else if (question == 5) {
      texts(x, all);
    } else {
      all.add((long) x.back());
      telling(x, all);
    }
    return all;
  }

  private static void telling(MiddleOfCourt x, List<Long> all) {
    for (int of = -1; of < 7; of++) {
      for (int what = 0; what < 7; what++) {
        all.add((long) x.told(of, what));
      }
    }
    for (int what = 0; what < 5; what++) {
      all.add((long) x.count(what));
    }
    for (int s = 0; s < 4; s++) {
      for (int what = 0; what < 7; what++) {
        all.add((long) x.rally(s, what));
      }
      all.add(x.likely(s));
      all.add((long) x.balls(s, 0));
      all.add((long) x.balls(s, 1));
      for (int sort = 0; sort < 3; sort++) {
        all.add((long) x.strokes(s, sort, 0, 0));
      }
    }
    for (int i = 0; i < 6; i++) {
      all.add((long) x.shot(0, i, 0));
      all.add((long) x.shot(0, i, 1));
      all.add((long) x.shot(1, i, 4));
    }
  }

  /** Each TEXT, by what it tells; and THE TAPE, by how long it is and what it is read as. */
  private static void texts(MiddleOfCourt x, List<Long> all) {
    for (int text = 0; text < 6; text++) {
      all.add((long) x.force(text));
      all.add((long) x.shot(0, 0, 1));
      all.add((long) x.shot(0, 0, 2));
      all.add((long) x.needs(0, 1));
    }
    all.add((long) x.count(3));
    all.add((long) x.text());
    all.add((long) x.feed('f'));
  }

  /** The items of a SHEET, by the AIMS of STROKES that are taken from another one and go again. */
  private static void items(MiddleOfCourt x, int sheet, List<Long> all) {
    int scratch = sheet == 3 ? 0 : 3;
    all.add((long) x.back());
    int strokes = x.image();
    for (int sort = 0; sort < 3; sort++) {
      all.add((long) x.strokes(sheet, sort, 0, 0));
      if (x.strokes(sheet, sort, 0, 0) == 0) {
        x.sheet(scratch, sort, 3);
        for (int i = 0; i < 40 && x.copy(sheet, i, scratch, 2, 1) == 1; i++) {
          all.add((long) x.strokes(scratch, sort, 0, 1));
          all.add((long) x.told(strokes, 5));
          x.back();
        }
      }
    }
  }
}
