/** Promises 7 to 9: the tape, texts and their faults, the rule. */
public final class TextsTest {
  private static final Due DUE = new Due();

  public static void main(String[] args) {
    feeds();
    reckons();
    faults();
    openOnes();
    textsAreNumbered();
    forces();
    DUE.end("TextsTest");
  }

  private static void feeds() {
    MiddleOfCourt x = new MiddleOfCourt();
    DUE.is("256", x.feed(256), -2);
    DUE.is("-1", x.feed(-1), -2);
    DUE.is("0", x.feed(0), 1);
    DUE.is("255", x.feed(255), 2);
    for (int i = 3; i <= 160; i++) {
      DUE.is("feed", x.feed(32), i);
    }
    DUE.is("161", x.feed(32), -4);
    DUE.is("bad ahead of full", x.feed(256), -2);
    DUE.is("tape", x.count(3), 160);
    DUE.is("a byte that begins none", x.text(), -100);
    DUE.is("tape is empty", x.count(3), 0);
    DUE.is("texts", x.count(2), 1);
  }

  /** An expression's worth, told by the tenths of a stroke that flies by it: 0 to 99. */
  private static void worth(String line, int want) {
    MiddleOfCourt x = new MiddleOfCourt();
    x.stroke(0, 6, 22);
    x.set(6, 0, 21);
    x.set(1, 0, 77);
    x.set(2, 0, 8);
    DUE.is(line, Due.text(x, "flies " + line + ";steps 0;slips 0;"), 1);
    x.force(1);
    DUE.is(line, x.shot(0, 0, 1), want);
  }

  private static void reckons() {
    worth("far", 2);
    worth("warm", 21);
    worth("legs", 77);
    worth("quick", 8);
    worth("number", 6);
    worth("cell", 22);
    worth("0098", 98);
    worth("9999", 99);
    worth("1+2*3", 7);
    worth("(1+2)*3", 9);
    worth("20-5-3", 12);
    worth("20-(5-3)", 18);
    worth("2*3+4*5", 26);
    worth("- 3 + 10", 7);
    worth("- 3 * - 5", 15);
    worth("- - 7", 7);
    worth("10 - - 7", 17);
    worth("1 < 2", 1);
    worth("2 < 2", 0);
    worth("3 < 2", 0);
    worth("- 1 < 0", 1);
    worth("2 = 2", 1);
    worth("2 = 3", 0);
    worth("1 + 1 = 2", 1);
    worth("(1 < 2) * 50", 50);
    worth("3 or 0", 1);
    worth("0 or 0", 0);
    worth("0 or - 4", 1);
    worth("3 and 4", 1);
    worth("3 and 0", 0);
    worth("0 and 1 or 1", 1);
    worth("1 or 1 and 0", 1);
    worth("not 0", 1);
    worth("not 7", 0);
    worth("not not 7", 1);
    worth("not 1 + 0 - 1", 1);
    worth("not 1 = 2", 1);
    worth("not 1 and 0", 0);
    worth("not 0 or 1", 1);
    worth("(not 0) * 42", 42);
    worth("9999 * 9999 * 9999 < 0", 9999 * 9999 * 9999 < 0 ? 1 : 0);
    worth("8192 * 8192 * 32 + 50", 0);
    worth("8192 * 8192 * 64 + 50", 50);
    worth("8192 * 8192 * 32 < 0", 1);
    worth("- (8192 * 8192 * 32) < 0", 1);
    worth("8192 * 8192 * 32 - 1 < 0", 0);
  }

  private static void fault(String line, int want) {
    MiddleOfCourt x = new MiddleOfCourt();
    DUE.is("[" + line + "]", Due.text(x, line), -100 - want);
    DUE.is("texts behind it", x.count(2), 1);
    DUE.is("tape behind it", x.count(3), 0);
  }

  private static void faultOf(String expression, int want) {
    fault("flies " + expression + ";steps 0;slips 0;", 6 + want);
  }

  private static void reads(String line) {
    DUE.is("[" + line + "]", Due.text(new MiddleOfCourt(), line), 1);
  }

  private static void faults() {
    fault("", 0);
    fault("  \n", 3);
    fault("flies", 5);
    fault("flies 1", 7);
    fault("flies 1;", 8);
    fault("flies 1; steps 2; slips 3", 25);
    fault("flies 1; steps 2; slips 3  ", 27);
    fault("flies 1; steps 2; slips 3; ;", 27);
    fault("flies 1; steps 2; slips 3; flies", 27);
    fault("steps 1;", 0);
    fault("flies 1; slips 2; steps 3;", 9);
    fault("Flies 1;", 0);
    fault("flies\t1;", 5);
    fault("flies\r1;", 5);
    fault("fliesfar;", 0);
    fault("flies far far;", 10);
    fault("flies farther;", 6);
    fault("flies fa;", 6);
    fault("flies farz;", 6);
    fault("flies far`;", 9);
    fault("flies far{;", 9);
    fault("flies 1/;", 7);
    fault("flies 1:;", 7);
    fault("flies steps;", 6);
    fault("flies 1 2;", 8);
    fault("flies far2;", 9);
    fault("flies 2far;", 7);
    fault("flies 12345;", 6);
    fault("flies 00001;", 6);
    fault("flies 1 12345;", 8);
    fault("flies ;", 6);
    fault("flies 1 + ;", 10);
    fault("flies 1 + * 2;", 10);
    fault("flies (1;", 8);
    fault("flies 1);", 7);
    fault("flies ();", 7);
    fault("flies 1 > 2;", 8);
    fault("flies 1 / 2;", 8);
    fault("flies 1 < 2 < 3;", 12);
    fault("flies 1 = 2 = 3;", 12);
    fault("flies 1 < not 2;", 10);
    fault("flies 1 + not 2;", 10);
    fault("flies - not 2;", 8);
    fault("flies 1 not 2;", 8);
    fault("flies 1 or;", 10);
    fault("flies or 1;", 6);
    fault("flies 1 and and 2;", 12);
    fault("flies not 1 < 2 < 3;", 16);
    fault("flies 1 == 2;", 9);
    fault("flies 1" + (char) 233 + ";", 7);
    fault("flies 1 @ 12345;", 8);
    reads("flies8+far*3;steps9-quick;slips far*2;");
    reads("\nflies 8\n;steps\n9 ; slips 1;\n ");
    reads("flies 1 < 2 and 3 = 4 or not 5 < 6; steps (1 < 2) < 3; slips 1;");
    reads("flies9999;steps 0000;slips 1;");
  }

  private static void openOnes() {
    reads("flies (((((1)))));steps 0;slips 0;");
    faultOf("((((((1))))))", 5);
    reads("flies - - - - - 1;steps 0;slips 0;");
    faultOf("- - - - - - 1", 10);
    reads("flies not not not not not 1;steps 0;slips 0;");
    faultOf("not not not not not not 1", 20);
    faultOf("(-(-(-1)))", 5);
    reads("flies (-(-(1)));steps 0;slips 0;");
    faultOf("not(not(not(1)))", 11);
    reads("flies not(not(1-(1)));steps 0;slips 0;");
    reads("flies ((((-1-1))))+((((-1))));steps 0;slips 0;");
    reads("flies not not not not -1 and not not not not -1;steps 0;slips 0;");
    reads("flies - - - - - 1 - - - - - 1;steps 0;slips 0;");
    faultOf("- - - - - (1)", 10);
    faultOf("(((((not 1)))))", 5);
    faultOf("(((((1 - - 1)))))", 9);
    reads("flies (((((1 - 1)))));steps 0;slips 0;");
    reads("flies -(-(1)) * -(-(-1));steps 0;slips 0;");
  }

  private static void textsAreNumbered() {
    MiddleOfCourt x = new MiddleOfCourt();
    for (int i = 1; i <= 5; i++) {
      DUE.is("a fault between", Due.text(x, "flies"), -105);
      DUE.is("text", Due.text(x, "flies " + i + ";steps 0;slips 0;"), i);
    }
    DUE.is("texts", x.count(2), 6);
    Due.feed(x, "ab");
    DUE.is("no room", x.text(), -4);
    DUE.is("the tape stays", x.count(3), 2);
    DUE.is("and takes more", x.feed(99), 3);
  }

  private static void forces() {
    MiddleOfCourt x = new MiddleOfCourt();
    x.stroke(0, 0, 12);
    DUE.is("text 1 is none yet", x.force(1), -2);
    DUE.is("-1", x.force(-1), -2);
    Due.text(x, "flies 33;steps 0;slips 0;");
    DUE.is("a text is not yet the rule", x.shot(0, 0, 1), 8);
    DUE.is("force 1", x.force(1), 0);
    DUE.is("rule", x.count(4), 1);
    DUE.is("by it", x.shot(0, 0, 1), 33);
    DUE.is("force 2", x.force(2), -2);
    DUE.is("rule stays", x.count(4), 1);
    DUE.is("a fault leaves the rule", Due.text(x, "flies 34;"), -109);
    DUE.is("by it still", x.shot(0, 0, 1), 33);
    DUE.is("force 0", x.force(0), 1);
    DUE.is("by the first again", x.shot(0, 0, 1), 8);
  }
}
