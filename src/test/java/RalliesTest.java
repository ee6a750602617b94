/** Promises 10 to 12: rallies in thought, truly, and how likely they are. */
public final class RalliesTest {
  private static final Due DUE = new Due();

  public static void main(String[] args) {
    strokeByStroke();
    whoStrikesWins();
    homeOrNot();
    boundsOfLegsAndWarm();
    legsOfThen();
    plays();
    likelies();
    refusals();
    DUE.end("RalliesTest");
  }

  private static void rally(MiddleOfCourt x, int sheet, int... want) {
    for (int what = 0; what < want.length; what++) {
      DUE.is("rally " + sheet + " " + what, x.rally(sheet, what), want[what]);
    }
  }

  private static void strokeByStroke() {
    MiddleOfCourt x = new MiddleOfCourt();
    x.stroke(0, 0, 0);
    Due.sheet(x, 0);
    rally(x, 0, -1, 0, 500, 500, 12, 12, 0);
    Due.sheet(x, 0, 0);
    rally(x, 0, -1, 1, 499, 498, 12, 0, 1);
    Due.sheet(x, 0, 0, 0);
    rally(x, 0, -1, 2, 497, 495, 0, 12, 2);
    x.set(2, 1, 4);
    rally(x, 0, -1, 2, 497, 497, 0, 0, 2);
    DUE.is("all in thought", x.told(0, 1), 500);
    DUE.is("no warmer", x.count(1), 0);
  }

  private static void whoStrikesWins() {
    MiddleOfCourt x = new MiddleOfCourt();
    x.stroke(0, 0, 0);
    x.stroke(2, 5, 12);
    x.set(2, 1, 0);
    Due.sheet(x, 0, 0, 0, 0);
    rally(x, 0, 0, 1, 499, 500, 12, 12, 0);
    x.set(2, 1, 2);
    rally(x, 0, -1, 3);
    x.set(2, 0, 0);
    x.set(2, 1, 5);
    Due.sheet(x, 0, 0, 1, 0, 0);
    x.set(0, 1, 6);
    rally(x, 0, 1, 4, 498, 495, 12, 0, 3);
    Due.rule(x, "flies 9; steps 9 - quick; slips 0;");
    Due.sheet(x, 0, 0, 0, 0);
    x.set(0, 1, 12);
    rally(x, 0, 1, 2, 499, 497, 12, 0, 1);
    x.set(2, 0, 5);
    rally(x, 0, -1, 3);
  }

  private static void homeOrNot() {
    MiddleOfCourt x = new MiddleOfCourt();
    x.stroke(0, 0, 10);
    x.set(0, 0, 24);
    Due.sheet(x, 0, 0);
    rally(x, 0, -1, 1, 497, 498, 12, 10, 1);
    x.set(3, 0, -1);
    rally(x, 0, -1, 1, 499, 498, 24, 10, 1);
    x.set(3, 0, 0);
    rally(x, 0, -1, 1, 495, 498, 0, 10, 1);
    x.set(2, 0, 3);
    rally(x, 0, -1, 1, 499, 498, 24, 10, 1);
    x.set(2, 0, 4);
    rally(x, 0, -1, 1, 495, 498, 0, 10, 1);
    x.set(3, 0, 24);
    x.set(2, 0, 0);
    rally(x, 0, -1, 1, 499, 498, 24, 10, 1);
  }

  private static void boundsOfLegsAndWarm() {
    MiddleOfCourt x = new MiddleOfCourt();
    x.stroke(2, 9, 0);
    x.set(6, 0, 98);
    x.set(1, 0, 5);
    x.set(1, 1, 1);
    Due.sheet(x, 0, 0);
    rally(x, 0, -1, 1, 0, 0, 12, 0, 99);
    x.set(6, 0, 99);
    x.set(1, 0, 6);
    x.set(1, 1, 3);
    rally(x, 0, -1, 1, 1, 1, 12, 0, 99);
  }

  /** Tenths by the legs ahead of the stroke; going home by those behind it; warm changes last. */
  private static void legsOfThen() {
    MiddleOfCourt x = new MiddleOfCourt();
    x.stroke(0, 0, 12);
    x.set(0, 0, 24);
    x.set(1, 0, 50);
    Due.rule(x, "flies 8; steps (legs < 50) * 5; slips (legs < 50) * 10;");
    Due.sheet(x, 0, 0);
    rally(x, 0, -1, 1, 49, 500, 24, 12, 1);
    DUE.is("slips by the legs from before", x.likely(0), 1000000000L);
    Due.rule(x, "flies (legs < 50) * 8; steps 1; slips 0;");
    rally(x, 0, -1, 1, 49, 500, 24, 12, 1);
    Due.rule(x, "flies 8; steps warm * 9; slips 0;");
    rally(x, 0, -1, 1, 47, 500, 12, 12, 1);
    Due.rule(x, "flies 8; steps (1 + cell = 13 and legs = 500) * 7; slips warm * 50;");
    x.set(5, 0, 11);
    rally(x, 0, -1, 1, 47, 499, 12, 11, 1);
    Due.sheet(x, 0, 0, 0);
    DUE.is("the second one slips", x.likely(0), 500000000L);
  }

  private static void plays() {
    MiddleOfCourt x = new MiddleOfCourt();
    x.stroke(0, 0, 0);
    Due.sheet(x, 1, 0, 0);
    DUE.is("play", x.play(1), -1);
    DUE.is("legs of 0", x.told(0, 1), 497);
    DUE.is("legs of 1", x.told(1, 1), 495);
    DUE.is("cell of 0", x.told(0, 0), 0);
    DUE.is("cell of 1", x.told(1, 0), 12);
    DUE.is("warm", x.count(1), 2);
    x.set(2, 1, 0);
    DUE.is("play to a win", x.play(1), 0);
    DUE.is("only legs are lost", x.told(0, 1), 496);
    DUE.is("he did not go", x.told(1, 0), 12);
    DUE.is("nor run", x.told(1, 1), 495);
    DUE.is("no warmer", x.count(1), 2);
    Due.sheet(x, 1);
    DUE.is("none told", x.play(1), -1);
    DUE.is("nothing changes", x.told(0, 1), 496);
  }

  private static void likelies() {
    MiddleOfCourt x = new MiddleOfCourt();
    x.stroke(0, 0, 12);
    x.stroke(0, 0, 0);
    Due.sheet(x, 0);
    DUE.is("none", x.likely(0), 1000000000L);
    Due.rule(x, "flies 8; steps 0; slips 33;");
    Due.sheet(x, 0, 0, 0, 0, 0, 0);
    DUE.is("five times 67 of 100, cut", x.likely(0), 135012510L);
    Due.rule(x, "flies 8; steps 9; slips 10;");
    Due.sheet(x, 0, 0, 1, 0, 0);
    DUE.is("till one wins, that one too", x.likely(0), 810000000L);
    Due.rule(x, "flies 8; steps 9; slips 100;");
    DUE.is("never", x.likely(0), 0L);
    DUE.is("in thought", x.told(0, 1), 500);
  }

  private static void refusals() {
    MiddleOfCourt x = new MiddleOfCourt();
    x.stroke(0, 0, 0);
    x.set(2, 1, 0);
    Due.sheet(x, 0, 0, 1);
    for (int sheet = -1; sheet <= 4; sheet++) {
      int want = sheet == 0 || sheet == -1 || sheet == 4 ? -2 : -11;
      DUE.is("rally " + sheet, x.rally(sheet, 0), want);
      DUE.is("play " + sheet, x.play(sheet), want);
      DUE.is("likely " + sheet, x.likely(sheet), MiddleOfCourt.NO);
      DUE.is("what ahead of missing", x.rally(sheet, 7), -2);
      DUE.is("what -1", x.rally(sheet, -1), -2);
    }
    DUE.is("a refusal changes nothing", x.told(0, 1), 500);
    Due.sheet(x, 0, 0, -1);
    DUE.is("-1 is no stroke", x.play(0), -2);
    Due.sheet(x, 0, 0, 6);
    DUE.is("6 is no stroke", x.play(0), -2);
    x.stroke(0, 0, 0);
    Due.sheet(x, 0, 0, 1);
    DUE.is("now it is one", x.play(0), 0);
  }
}
