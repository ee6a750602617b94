/** Promises 1 to 6. */
public final class PlayersAndStrokesTest {
  private static final Due DUE = new Due();

  public static void main(String[] args) {
    newObject();
    setAnswersWhatItWas();
    setRefuses();
    strokesCome();
    tolds();
    shotsByKind();
    shotsAreBounded();
    shotsByWhere();
    shotsRefuse();
    needsByWay();
    DUE.end("PlayersAndStrokesTest");
  }

  private static void newObject() {
    MiddleOfCourt x = new MiddleOfCourt();
    for (int p = 0; p < 2; p++) {
      DUE.is("cell", x.told(p, 0), 12);
      DUE.is("legs", x.told(p, 1), 500);
      DUE.is("quick", x.told(p, 2), 5);
      DUE.is("home", x.told(p, 3), 12);
    }
    DUE.is("strokes", x.count(0), 0);
    DUE.is("warm", x.count(1), 0);
    DUE.is("texts", x.count(2), 1);
    DUE.is("tape", x.count(3), 0);
    DUE.is("rule", x.count(4), 0);
    DUE.is("no stroke", x.told(0, 4), -100);
    DUE.is("no image", x.back(), -3);
    for (int s = 0; s < 4; s++) {
      DUE.is("missing sheet", x.rally(s, 0), -11);
    }
  }

  private static void setAnswersWhatItWas() {
    MiddleOfCourt x = new MiddleOfCourt();
    x.stroke(0, 3, 7);
    DUE.is("cell 0", x.set(0, 0, 24), 12);
    DUE.is("cell 0 again", x.set(0, 0, 0), 24);
    DUE.is("cell 1", x.set(0, 1, 3), 12);
    DUE.is("legs", x.set(1, 1, 999), 500);
    DUE.is("legs again", x.set(1, 1, 0), 999);
    DUE.is("quick", x.set(2, 0, 9), 5);
    DUE.is("quick again", x.set(2, 0, 0), 9);
    DUE.is("home", x.set(3, 1, -1), 12);
    DUE.is("home again", x.set(3, 1, 24), -1);
    DUE.is("number", x.set(4, 0, 9), 3);
    DUE.is("aim", x.set(5, 0, 24), 7);
    DUE.is("warm, of whatever", x.set(6, -77, 99), 0);
    DUE.is("warm again", x.set(6, 5, 1), 99);
    DUE.is("cell is 0", x.told(0, 0), 0);
    DUE.is("the other cell is 3", x.told(1, 0), 3);
    DUE.is("legs of 0 stay", x.told(0, 1), 500);
    DUE.is("number is 9", x.told(0, 4), 9);
    DUE.is("aim is 24", x.told(0, 5), 24);
    DUE.is("warm is 1", x.count(1), 1);
    DUE.is("warm 0", x.set(6, 0, 0), 1);
    DUE.is("number 0", x.set(4, 0, 0), 9);
    DUE.is("aim 0", x.set(5, 0, 0), 24);
    DUE.is("all 0", x.count(1) + x.told(0, 4) + x.told(0, 5), 0);
  }

  private static void setRefuses() {
    MiddleOfCourt x = new MiddleOfCourt();
    x.stroke(0, 3, 7);
    int[][] calls = {
      {-1, 0, 0}, {7, 0, 0}, {0, -1, 0}, {0, 2, 0}, {0, 0, -1}, {0, 0, 25}, {1, 0, -1}, {1, 0, 1000},
      {1, 2, 0}, {2, 0, -1}, {2, 0, 10}, {2, 2, 5}, {3, 0, -2}, {3, 0, 25}, {3, 2, 0}, {4, 0, -1},
      {4, 0, 10}, {4, 1, 0}, {4, -1, 0}, {5, 0, -1}, {5, 0, 25}, {5, 1, 0}, {5, -1, 0}, {6, 0, -1},
      {6, 0, 100}, {Integer.MIN_VALUE, 0, 0}, {Integer.MAX_VALUE, 0, 0}
    };
    for (int[] c : calls) {
      DUE.is("set " + c[0] + " " + c[1] + " " + c[2], x.set(c[0], c[1], c[2]), -100);
    }
    DUE.is("cell stays", x.told(0, 0), 12);
    DUE.is("legs stay", x.told(0, 1), 500);
    DUE.is("quick stays", x.told(0, 2), 5);
    DUE.is("home stays", x.told(0, 3), 12);
    DUE.is("number stays", x.told(0, 4), 3);
    DUE.is("aim stays", x.told(0, 5), 7);
    DUE.is("warm stays", x.count(1), 0);
  }

  private static void strokesCome() {
    MiddleOfCourt x = new MiddleOfCourt();
    int[][] bad = {{-1, 0, 0}, {6, 0, 0}, {0, -1, 0}, {0, 10, 0}, {0, 0, -1}, {0, 0, 25}};
    for (int[] b : bad) {
      DUE.is("bad stroke", x.stroke(b[0], b[1], b[2]), -2);
    }
    DUE.is("none came", x.count(0), 0);
    for (int kind = 0; kind < 6; kind++) {
      DUE.is("stroke", x.stroke(kind, 9 - kind, 24 - kind), kind);
    }
    DUE.is("a seventh", x.stroke(0, 0, 0), -4);
    DUE.is("bad ahead of full", x.stroke(6, 0, 0), -2);
    DUE.is("six", x.count(0), 6);
    for (int kind = 0; kind < 6; kind++) {
      DUE.is("number", x.told(kind, 4), 9 - kind);
      DUE.is("aim", x.told(kind, 5), 24 - kind);
      DUE.is("kind", x.told(kind, 6), kind);
    }
  }

  private static void tolds() {
    MiddleOfCourt x = new MiddleOfCourt();
    x.stroke(4, 2, 3);
    DUE.is("of a stroke that is none", x.told(1, 4), -100);
    DUE.is("aim of none", x.told(1, 5), -100);
    DUE.is("kind of none", x.told(-1, 6), -100);
    DUE.is("player 2", x.told(2, 0), -100);
    DUE.is("player -1", x.told(-1, 3), -100);
    DUE.is("what 7", x.told(0, 7), -100);
    DUE.is("what -1", x.told(0, -1), -100);
    DUE.is("kind", x.told(0, 6), 4);
  }

  private static void shot(MiddleOfCourt x, int player, int stroke, int... want) {
    for (int what = 0; what < want.length; what++) {
      DUE.is("shot " + player + " " + stroke + " " + what, x.shot(player, stroke, what), want[what]);
    }
  }

  private static void shotsByKind() {
    MiddleOfCourt x = new MiddleOfCourt();
    x.stroke(0, 9, 24);
    x.stroke(1, 9, 24);
    x.stroke(2, 9, 10);
    x.stroke(3, 4, 19);
    x.stroke(4, 3, 11);
    x.stroke(5, 0, 0);
    shot(x, 0, 0, 24, 14, 4, 1, 8);
    shot(x, 0, 1, 24, 23, 4, 1, 8);
    shot(x, 0, 2, 10, 7, 4, 5, 8);
    shot(x, 0, 3, 24, 28, 4, 0, 8);
    shot(x, 0, 4, 13, 8, 2, 2, 4);
    shot(x, 0, 5, 0, 12, 4, 3, 8);
    x.set(6, 0, 19);
    shot(x, 1, 2, 10, 7);
    shot(x, 1, 4, 13, 8);
    x.set(6, 0, 20);
    shot(x, 1, 2, 10, 14, 4, 5, 8);
    shot(x, 1, 4, 13, 14, 2, 2, 4);
    shot(x, 1, 0, 24, 14);
    x.set(0, 0, 11);
    shot(x, 0, 5, 4, 15, 6, 3, 8);
    x.set(0, 0, 10);
    shot(x, 0, 5, 4, 18, 8, 3, 8);
    x.set(5, 3, 20);
    shot(x, 1, 3, 20, 28);
    x.set(5, 3, 24);
    shot(x, 1, 3, 24, 28);
    DUE.is("no shot tires", x.told(0, 1), 500);
    DUE.is("no shot warms", x.count(1), 20);
  }

  private static void shotsAreBounded() {
    MiddleOfCourt x = new MiddleOfCourt();
    x.stroke(5, 0, 24);
    x.stroke(5, 1, 24);
    x.stroke(5, 3, 24);
    x.stroke(2, 0, 24);
    x.stroke(4, 0, 20);
    x.stroke(3, 9, 19);
    Due.rule(x, "flies 0 - 50; steps 0 - 1; slips 0 - 1;");
    shot(x, 0, 0, 24, 0, 0, 3, 0);
    shot(x, 0, 1, 24, 0, 0);
    shot(x, 0, 2, 24, 1, 0);
    shot(x, 0, 3, 24, 0);
    shot(x, 0, 4, 24, 3);
    shot(x, 0, 5, 24, 19);
    Due.rule(x, "flies 100; steps 100; slips 101;");
    shot(x, 0, 0, 24, 97, 100, 3, 198);
    shot(x, 0, 3, 24, 49);
    shot(x, 0, 4, 24, 52);
    shot(x, 0, 5, 24, 118);
    Due.rule(x, "flies 99; steps 99; slips 100;");
    shot(x, 0, 5, 24, 118, 100, 0, 198);
  }

  /** Where it is struck, where it comes, and whose legs and quickness are told to the rule. */
  private static void shotsByWhere() {
    MiddleOfCourt x = new MiddleOfCourt();
    x.stroke(3, 7, 1);
    x.set(0, 0, 24);
    x.set(0, 1, 10);
    x.set(1, 0, 31);
    x.set(1, 1, 29);
    x.set(2, 0, 3);
    x.set(2, 1, 8);
    x.set(6, 0, 41);
    Due.rule(x, "flies cell; steps cell; slips number;");
    shot(x, 0, 0, 6, 6 + 17, 7, 0, 10);
    Due.rule(x, "flies legs; steps legs; slips legs;");
    shot(x, 0, 0, 6, 31 + 17, 31, 0, 29);
    Due.rule(x, "flies quick; steps quick; slips quick;");
    shot(x, 0, 0, 6, 3 + 17, 3, 0, 8);
    Due.rule(x, "flies warm; steps warm; slips warm;");
    shot(x, 0, 0, 6, 41 + 17, 41, 0, 41);
    Due.rule(x, "flies far; steps number; slips far;");
    shot(x, 0, 0, 6, 3 + 17, 3, 0, 0);
  }

  private static void shotsRefuse() {
    MiddleOfCourt x = new MiddleOfCourt();
    x.stroke(0, 0, 0);
    int[][] bad = {{-1, 0, 0}, {2, 0, 0}, {0, -1, 0}, {0, 1, 0}, {0, 6, 0}, {0, 0, -1}, {0, 0, 5}};
    for (int[] b : bad) {
      DUE.is("bad shot", x.shot(b[0], b[1], b[2]), -2);
    }
  }

  private static void needsByWay() {
    MiddleOfCourt x = new MiddleOfCourt();
    DUE.is("12 to 0", x.needs(0, 1200), 8);
    DUE.is("nowhere", x.needs(1, 707), 0);
    DUE.is("0 to 24", x.needs(1, 24), 16);
    DUE.is("0 to 0", x.needs(1, 0), 0);
    DUE.is("24 to 0", x.needs(1, 2400), 16);
    DUE.is("4 to 5: by x", x.needs(0, 405), 16);
    DUE.is("0 to 11: by y", x.needs(0, 11), 8);
    x.set(2, 1, 9);
    DUE.is("quick 9", x.needs(1, 24), 0);
    DUE.is("the other one's quick", x.needs(0, 24), 16);
    Due.rule(x, "flies 0; steps far * 10 + cell; slips 0;");
    DUE.is("far and cell", x.needs(0, 712), 1 * (10 + 7));
    DUE.is("the bound", x.needs(0, 2004), 4 * 60);
    int[] bad = {-1, 25, 2500, 2425, 99, Integer.MIN_VALUE, Integer.MAX_VALUE, -1200};
    for (int way : bad) {
      DUE.is("bad way " + way, x.needs(0, way), -2);
    }
    DUE.is("2424", x.needs(0, 2424), 0);
    DUE.is("player 2", x.needs(2, 0), -2);
    DUE.is("player -1", x.needs(-1, 0), -2);
  }
}
