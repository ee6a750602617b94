/** Promises 13 to 17: the best stroke, a sure win, where to stand, whom it tires, who is in the way. */
public final class BestStrokeTest {
  private static final Due DUE = new Due();

  public static void main(String[] args) {
    nothingToStrike();
    firstOfLikeOnes();
    soonerOrLater();
    bestRefuses();
    stands();
    tiring();
    ways();
    DUE.end("BestStrokeTest");
  }

  private static void nothingToStrike() {
    MiddleOfCourt x = new MiddleOfCourt();
    for (int n = 0; n <= 5; n++) {
      DUE.is("value", x.best(1, n, 0), 0);
      DUE.is("best", x.best(1, n, 1), -1);
    }
    DUE.is("sure", x.sure(1), -1);
    DUE.is("stand", x.stand(1, 0), 0);
    DUE.is("the most", x.stand(1, 1), 0);
    DUE.is("tires", x.tires(1), -1);
  }

  private static void firstOfLikeOnes() {
    MiddleOfCourt x = new MiddleOfCourt();
    x.stroke(0, 0, 12);
    x.stroke(0, 0, 0);
    x.stroke(2, 0, 0);
    x.stroke(2, 0, 4);
    DUE.is("no strokes left", x.best(0, 0, 0), 0);
    DUE.is("none is best", x.best(0, 0, 1), -1);
    DUE.is("drops win", x.best(0, 1, 0), 1);
    DUE.is("the first of them", x.best(0, 1, 1), 2);
    x.set(6, 0, 99);
    DUE.is("warm ones do not", x.best(0, 1, 0), 0);
    DUE.is("all are like", x.best(0, 1, 1), 0);
    DUE.is("not sure", x.sure(0), -1);
  }

  /** One who has no legs left can't reach a far ball: who makes the other run first wins. */
  private static void soonerOrLater() {
    MiddleOfCourt x = new MiddleOfCourt();
    x.stroke(0, 0, 12);
    x.stroke(0, 0, 0);
    x.set(3, 0, -1);
    x.set(3, 1, -1);
    Due.rule(x, "flies 8; steps (legs < 499) * 9; slips 0;");
    DUE.is("not by one", x.best(0, 1, 0), 0);
    DUE.is("nor by two", x.best(0, 2, 0), 0);
    DUE.is("three", x.best(0, 3, 0), 1);
    DUE.is("by the far one", x.best(0, 3, 1), 1);
    DUE.is("sure by three", x.sure(0), 3);
    x.set(1, 1, 0);
    DUE.is("sure by one", x.sure(0), 1);
    DUE.is("of the other one", x.best(1, 2, 0), -1);
    DUE.is("all are lost: the first", x.best(1, 2, 1), 0);
    DUE.is("not yet lost", x.best(1, 1, 0), 0);
    DUE.is("in thought", x.told(0, 1), 500);
    DUE.is("where he was", x.told(1, 0), 12);
  }

  private static void bestRefuses() {
    MiddleOfCourt x = new MiddleOfCourt();
    x.stroke(0, 0, 0);
    int[][] bad = {{-1, 1, 0}, {2, 1, 0}, {0, -1, 0}, {0, 6, 0}, {0, 1, -1}, {0, 1, 2}};
    for (int[] b : bad) {
      DUE.is("bad best", x.best(b[0], b[1], b[2]), -100);
    }
    DUE.is("sure -1", x.sure(-1), -2);
    DUE.is("sure 2", x.sure(2), -2);
    DUE.is("stand -1", x.stand(-1, 0), -100000);
    DUE.is("stand 2", x.stand(2, 0), -100000);
    DUE.is("stand what -1", x.stand(0, -1), -100000);
    DUE.is("stand what 2", x.stand(0, 2), -100000);
    DUE.is("tires -1", x.tires(-1), -2);
    DUE.is("tires 2", x.tires(2), -2);
  }

  private static void stands() {
    MiddleOfCourt x = new MiddleOfCourt();
    x.stroke(0, 0, 24);
    DUE.is("where it comes", x.stand(0, 0), 24);
    DUE.is("the most", x.stand(0, 1), -14);
    x.stroke(0, 0, 20);
    DUE.is("between", x.stand(0, 0), 12);
    DUE.is("the most", x.stand(0, 1), 8 - 14);
    x.set(0, 1, 20);
    DUE.is("nearer what is quick", x.stand(0, 0), 15);
    DUE.is("the most", x.stand(0, 1), -4);
    x.set(2, 0, 9);
    DUE.is("one who needs none: all are like", x.stand(0, 0), 0);
    DUE.is("the most", x.stand(0, 1), -8);
    DUE.is("by his own quick", x.stand(1, 0), 12);
    DUE.is("he is in his cell still", x.told(0, 0), 12);
  }

  private static void tiring() {
    MiddleOfCourt x = new MiddleOfCourt();
    x.stroke(0, 0, 12);
    x.stroke(0, 0, 11);
    x.stroke(0, 0, 0);
    x.stroke(0, 0, 4);
    x.stroke(2, 0, 24);
    DUE.is("the first of the farthest", x.tires(0), 2);
    x.set(5, 0, 0);
    DUE.is("now 0", x.tires(0), 0);
    x.set(5, 0, 12);
    x.set(2, 1, 0);
    DUE.is("far ones would win", x.tires(0), 1);
    x.set(0, 1, 24);
    DUE.is("a drop to where he is", x.tires(0), 4);
    x.set(5, 4, 0);
    DUE.is("all would win", x.tires(0), -1);
  }

  private static void ways() {
    MiddleOfCourt x = new MiddleOfCourt();
    x.stroke(1, 9, 14);
    x.stroke(1, 9, 12);
    x.stroke(1, 9, 20);
    x.set(3, 0, -1);
    x.set(3, 1, -1);
    x.set(2, 0, 9);
    x.set(2, 1, 9);
    Due.sheet(x, 0, 0);
    x.set(0, 0, 12);
    x.set(0, 1, 10);
    DUE.is("12 lies between 10 and 14", x.inTheWay(0), 0);
    x.set(0, 1, 12);
    DUE.is("not where he sets out", x.inTheWay(0), -1);
    x.set(0, 0, 14);
    DUE.is("but where it comes", x.inTheWay(0), 0);
    x.set(0, 0, 9);
    x.set(0, 1, 2);
    DUE.is("8 then 14, not 9", x.inTheWay(0), -1);
    x.set(0, 0, 8);
    DUE.is("aslant first", x.inTheWay(0), 0);
    x.set(0, 0, 16);
    x.set(0, 1, 4);
    Due.sheet(x, 0, 2);
    DUE.is("aslant to a corner", x.inTheWay(0), 0);
    x.set(0, 1, 9);
    DUE.is("13 17 21 20", x.inTheWay(0), -1);
    x.set(0, 0, 21);
    DUE.is("21", x.inTheWay(0), 0);
    x.set(0, 0, 24);
    x.set(0, 1, 0);
    Due.sheet(x, 0, 0, 1, 2);
    DUE.is("the third", x.inTheWay(0), -1);
    x.set(0, 0, 12);
    x.set(0, 1, 12);
    Due.sheet(x, 0, 1, 1, 0);
    DUE.is("none goes, the third is struck from 12", x.inTheWay(0), -1);
    Due.sheet(x, 0, 1, 0, 1);
    DUE.is("0 goes from 12 to 14, 1 from 12 to 12", x.inTheWay(0), -1);
    x.set(0, 1, 10);
    Due.sheet(x, 0, 1, 1, 0);
    DUE.is("he comes to the cell of who struck", x.inTheWay(0), 0);
    Due.rule(x, "flies 0; steps 9; slips 0;");
    x.set(5, 0, 14);
    x.set(4, 0, 0);
    Due.sheet(x, 0, 0);
    DUE.is("not if it wins", x.inTheWay(0), -1);
    Due.sheet(x, 0);
    DUE.is("none told", x.inTheWay(0), -1);
    Due.sheet(x, 0, 3);
    DUE.is("no stroke", x.inTheWay(0), -2);
    DUE.is("missing", x.inTheWay(1), -11);
    DUE.is("-1", x.inTheWay(-1), -2);
    DUE.is("4", x.inTheWay(4), -2);
  }
}
