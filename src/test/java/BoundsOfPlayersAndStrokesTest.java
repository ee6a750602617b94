/** Promises 1 to 6 at their bounds: the least and the most of each range, and what lies outside. */
public final class BoundsOfPlayersAndStrokesTest {
  private static final Due DUE = new Due();
  private static final int LEAST = Integer.MIN_VALUE, MOST = Integer.MAX_VALUE;
  private static final int PLAIN = 0, LENGTH = 1, DROP = 2, LOB = 3, BOAST = 4, CROSS = 5;

  public static void main(String[] args) {
    promise1Players();
    promise1NoStrokes();
    promise1TextZero();
    promise1NothingElse();
    promise1FiveHundredTwelveCalls();
    promise1ObjectsAreApart();
    promise2Ranges();
    promise2NoneSuch();
    promise2OnlyThat();
    promise3Ranges();
    promise3Full();
    promise4NoneSuch();
    promise4AtBounds();
    promise5Bad();
    promise5Comes();
    promise5FliesBounds();
    promise5SlipsBounds();
    promise5TenthsOfKinds();
    promise5TenthsAtLeastZero();
    promise5TenthsHaveNoMost();
    promise5DropsWarm();
    promise5Spends();
    promise5WhatTheOtherNeeds();
    promise5WhatTheTextIsTold();
    promise6Way();
    promise6Far();
    promise6StepsBounds();
    promise6WhatTheTextIsTold();
    DUE.end("BoundsOfPlayersAndStrokesTest");
  }

  /** One stroke, and a rule by which it flies, one steps and it slips as told. */
  private static MiddleOfCourt by(String flies, String steps, String slips) {
    MiddleOfCourt x = new MiddleOfCourt();
    DUE.is("text", Due.text(x, "flies " + flies + ";steps " + steps + ";slips " + slips + ";"), 1);
    x.force(1);
    return x;
  }

  private static int tenths(String flies, int kind, int number, int warm) {
    MiddleOfCourt x = by(flies, "0", "0");
    x.stroke(kind, number, 0);
    x.set(6, 0, warm);
    return x.shot(0, 0, 1);
  }

  // ---- promise 1

  private static void promise1Players() {
    DUE.promise(1, "Both in the middle: a CELL 12, LEGS 500, QUICK 5, HOME 12 at first");
    MiddleOfCourt x = new MiddleOfCourt();
    int[] want = {12, 500, 5, 12};
    for (int p = 0; p < 2; p++) {
      for (int what = 0; what < 4; what++) {
        DUE.is("told(" + p + ", " + what + ")", x.told(p, what), want[what]);
      }
    }
    DUE.promise(1, "WARM 0 at first");
    DUE.is("count(1)", x.count(1), 0);
    DUE.is("set(6, 0, 0)", x.set(6, 0, 0), 0);
  }

  private static void promise1NoStrokes() {
    DUE.promise(1, "no STROKES");
    MiddleOfCourt x = new MiddleOfCourt();
    DUE.is("count(0)", x.count(0), 0);
    for (int what = 4; what < 7; what++) {
      DUE.is("told(0, " + what + ")", x.told(0, what), -100);
    }
    DUE.is("set(4, 0, 0)", x.set(4, 0, 0), -100);
    DUE.is("shot(0, 0, 0)", x.shot(0, 0, 0), -2);
    DUE.is("taken(0, 0)", x.taken(0, 0), -11);
    Due.sheet(x, 0, 0);
    DUE.is("a rally of STROKE 0", x.rally(0, 0), -2);
  }

  private static void promise1TextZero() {
    DUE.promise(1, "TEXT 0, at first THE RULE: flies 8 + far * 3 ; steps 9 - quick ; slips far * 2 ;");
    MiddleOfCourt x = new MiddleOfCourt();
    DUE.is("TEXTS", x.count(2), 1);
    DUE.is("THE RULE", x.count(4), 0);
    x.stroke(0, 0, 0);
    int[] from = {0, 1, 2, 3, 4, 24};
    int[] far = {0, 1, 2, 3, 4, 4};
    for (int i = 0; i < from.length; i++) {
      x.set(0, 0, from[i]);
      DUE.is("TENTHS from " + from[i], x.shot(0, 0, 1), 8 + far[i] * 3);
      DUE.is("slips from " + from[i], x.shot(0, 0, 2), far[i] * 2);
    }
    for (int quick = 0; quick <= 9; quick++) {
      x.set(2, 1, quick);
      DUE.is("one step, QUICK " + quick, x.needs(1, 1), 9 - quick);
    }
  }

  private static void promise1NothingElse() {
    MiddleOfCourt x = new MiddleOfCourt();
    DUE.promise(1, "THE TAPE is empty, no IMAGE");
    DUE.is("count(3)", x.count(3), 0);
    DUE.is("back()", x.back(), -3);
    DUE.is("text() of an empty tape", x.text(), -100);
    DUE.promise(1, "SHEETS 0 .. 3 are missing, as all are at first");
    for (int s = 0; s < 4; s++) {
      DUE.is("cell(" + s + ", 0, 0)", x.cell(s, 0, 0), -11);
    }
  }

  private static void promise1FiveHundredTwelveCalls() {
    DUE.promise(1, "An object is used for at most 512 calls");
    MiddleOfCourt x = new MiddleOfCourt();
    int before = 12;
    for (int call = 1; call <= 512; call++) {
      int cell = call % 25;
      DUE.is("call " + call, x.set(0, 0, cell), before);
      before = cell;
    }
  }

  private static void promise1ObjectsAreApart() {
    DUE.promise(1, "A new object: both in the middle, also if another object was used");
    MiddleOfCourt used = new MiddleOfCourt();
    used.stroke(1, 2, 3);
    used.set(0, 0, 7);
    used.set(6, 0, 50);
    Due.rule(used, "flies 1; steps 1; slips 1;");
    used.sheet(0, 0, 5);
    used.image();
    MiddleOfCourt x = new MiddleOfCourt();
    DUE.is("CELL", x.told(0, 0), 12);
    for (int what = 0; what < 5; what++) {
      DUE.is("count(" + what + ")", x.count(what), what == 2 ? 1 : 0);
    }
    DUE.is("back()", x.back(), -3);
    DUE.is("cell(0, 0, 0)", x.cell(0, 0, 0), -11);
    DUE.is("the used one's CELL", used.told(0, 0), 7);
  }

  // ---- promise 2

  private static MiddleOfCourt withStrokes(int n) {
    MiddleOfCourt x = new MiddleOfCourt();
    for (int i = 0; i < n; i++) {
      x.stroke(i % 6, 3, 7);
    }
    return x;
  }

  private static int nowOf(MiddleOfCourt x, int what, int of) {
    return what == 6 ? x.count(1) : x.told(of, what);
  }

  private static void setTakes(String sentence, int what, int of, int least, int most) {
    DUE.promise(2, sentence);
    MiddleOfCourt x = withStrokes(6);
    String call = "set(" + what + ", " + of + ", ";
    int was = nowOf(x, what, of);
    for (int v : new int[] {least - 1, most + 1, LEAST, MOST}) {
      DUE.is(call + v + ")", x.set(what, of, v), -100);
      DUE.is("as it was behind " + call + v + ")", nowOf(x, what, of), was);
    }
    DUE.is(call + least + "): what it was", x.set(what, of, least), was);
    DUE.is("it is the least", nowOf(x, what, of), least);
    DUE.is(call + most + "): what it was", x.set(what, of, most), least);
    DUE.is("it is the most", nowOf(x, what, of), most);
    DUE.is(call + most + ") again", x.set(what, of, most), most);
  }

  private static void promise2Ranges() {
    for (int p = 0; p < 2; p++) {
      setTakes("CELLS 0 .. 24", 0, p, 0, 24);
      setTakes("LEGS (0 .. 999)", 1, p, 0, 999);
      setTakes("QUICK (0 .. 9)", 2, p, 0, 9);
      setTakes("HOME (3; NONE: none)", 3, p, -1, 24);
    }
    for (int i = 0; i < 6; i++) {
      setTakes("a NUMBER (0 .. 9)", 4, i, 0, 9);
      setTakes("an AIM (a CELL)", 5, i, 0, 24);
    }
    for (int of : new int[] {0, -1, 6, LEAST, MOST}) {
      setTakes("WARM (0 .. 99); of does not matter", 6, of, 0, 99);
    }
  }

  private static void promise2NoneSuch() {
    DUE.promise(2, "-100: none such");
    MiddleOfCourt x = withStrokes(2);
    for (int what : new int[] {-1, 7, LEAST, MOST}) {
      DUE.is("set(" + what + ", 0, 0)", x.set(what, 0, 0), -100);
    }
    for (int what = 0; what < 4; what++) {
      for (int of : new int[] {-1, 2, LEAST, MOST}) {
        DUE.is("set(" + what + ", " + of + ", 0)", x.set(what, of, 0), -100);
      }
    }
    for (int what = 4; what < 6; what++) {
      for (int of : new int[] {-1, 2, 6, LEAST, MOST}) {
        DUE.is("set(" + what + ", " + of + ", 0)", x.set(what, of, 0), -100);
      }
      DUE.is("of the last STROKE", x.set(what, 1, 0), what == 4 ? 3 : 7);
    }
  }

  private static void promise2OnlyThat() {
    DUE.promise(2, "the CELL, LEGS, QUICK, HOME of a PLAYER becomes v: no other");
    MiddleOfCourt x = new MiddleOfCourt();
    int[] least = {0, 0, 0, -1};
    int[] first = {12, 500, 5, 12};
    for (int what = 0; what < 4; what++) {
      x.set(what, 0, least[what]);
      DUE.is("the other one's " + what, x.told(1, what), first[what]);
      for (int later = what + 1; later < 4; later++) {
        DUE.is("his " + later, x.told(0, later), first[later]);
      }
    }
    DUE.promise(2, "NUMBER, AIM of a STROKE becomes v: no other");
    x = withStrokes(2);
    x.set(4, 0, 9);
    DUE.is("his AIM", x.told(0, 5), 7);
    x.set(5, 0, 24);
    DUE.is("the other one's NUMBER", x.told(1, 4), 3);
    DUE.is("the other one's AIM", x.told(1, 5), 7);
    DUE.is("KIND", x.told(0, 6), 0);
  }

  // ---- promise 3

  private static void strokeTakes(String sentence, int at, int least, int most) {
    DUE.promise(3, sentence);
    MiddleOfCourt x = new MiddleOfCourt();
    for (int v : new int[] {least - 1, most + 1, LEAST, MOST}) {
      int[] c = {1, 1, 1};
      c[at] = v;
      DUE.is("BAD: " + v, x.stroke(c[0], c[1], c[2]), -2);
      DUE.is("none came", x.count(0), 0);
    }
    int number = 0;
    for (int v : new int[] {least, most}) {
      int[] c = {1, 1, 1};
      c[at] = v;
      DUE.is("its number by " + v, x.stroke(c[0], c[1], c[2]), number);
      DUE.is("KIND", x.told(number, 6), c[0]);
      DUE.is("NUMBER", x.told(number, 4), c[1]);
      DUE.is("AIM", x.told(number, 5), c[2]);
      number++;
    }
  }

  private static void promise3Ranges() {
    strokeTakes("a KIND 0 .. 5", 0, 0, 5);
    strokeTakes("a NUMBER (0 .. 9)", 1, 0, 9);
    strokeTakes("an AIM (a CELL)", 2, 0, 24);
  }

  private static void promise3Full() {
    DUE.promise(3, "STROKES (6 at most, numbered from 0)");
    MiddleOfCourt x = new MiddleOfCourt();
    for (int i = 0; i < 6; i++) {
      DUE.is("stroke " + i, x.stroke(5 - i, i, 24 - i), i);
      DUE.is("how many", x.count(0), i + 1);
    }
    DUE.is("a seventh: FULL", x.stroke(0, 0, 0), -4);
    DUE.is("still 6", x.count(0), 6);
    for (int i = 0; i < 6; i++) {
      DUE.is("KIND of " + i, x.told(i, 6), 5 - i);
      DUE.is("NUMBER of " + i, x.told(i, 4), i);
      DUE.is("AIM of " + i, x.told(i, 5), 24 - i);
    }
    DUE.promise(3, "BAD; FULL: the first that the words name");
    int[][] bad = {{-1, 0, 0}, {6, 0, 0}, {0, -1, 0}, {0, 10, 0}, {0, 0, -1}, {0, 0, 25}};
    for (int[] b : bad) {
      DUE.is("BAD ahead of FULL", x.stroke(b[0], b[1], b[2]), -2);
    }
    DUE.promise(3, "FULL: with 6, not with 5");
    x = withStrokes(0);
    x.image();
    for (int i = 0; i < 6; i++) {
      x.stroke(0, 0, 0);
    }
    x.back();
    DUE.is("room again, as STROKES went", x.stroke(0, 0, 0), 0);
  }

  // ---- promise 4

  private static void promise4NoneSuch() {
    DUE.promise(4, "-100: none such");
    MiddleOfCourt x = withStrokes(3);
    for (int what = 0; what < 4; what++) {
      for (int of : new int[] {-1, 2, LEAST, MOST}) {
        DUE.is("told(" + of + ", " + what + ")", x.told(of, what), -100);
      }
    }
    for (int what = 4; what < 7; what++) {
      for (int of : new int[] {-1, 3, 6, LEAST, MOST}) {
        DUE.is("told(" + of + ", " + what + ")", x.told(of, what), -100);
      }
    }
    for (int of = -1; of < 4; of++) {
      for (int what : new int[] {-1, 7, LEAST, MOST}) {
        DUE.is("told(" + of + ", " + what + ")", x.told(of, what), -100);
      }
    }
  }

  private static void promise4AtBounds() {
    DUE.promise(4, "of a PLAYER: 0 .. 3 as of set(); of a STROKE: 4 NUMBER, 5 AIM, 6 KIND");
    MiddleOfCourt x = new MiddleOfCourt();
    for (int i = 0; i < 6; i++) {
      x.stroke(i, i % 2 * 9, i % 2 * 24);
    }
    for (int i = 0; i < 6; i++) {
      DUE.is("NUMBER of " + i, x.told(i, 4), i % 2 * 9);
      DUE.is("AIM of " + i, x.told(i, 5), i % 2 * 24);
      DUE.is("KIND of " + i, x.told(i, 6), i);
    }
    int[] most = {24, 999, 9, 24};
    for (int what = 0; what < 4; what++) {
      x.set(what, 1, most[what]);
      DUE.is("the most of " + what, x.told(1, what), most[what]);
    }
    x.set(3, 1, -1);
    DUE.is("HOME: NONE", x.told(1, 3), -1);
  }

  // ---- promise 5

  private static void promise5Bad() {
    DUE.promise(5, "BAD");
    MiddleOfCourt x = withStrokes(2);
    for (int odd : new int[] {-1, 2, LEAST, MOST}) {
      DUE.is("PLAYER " + odd, x.shot(odd, 0, 0), -2);
      DUE.is("STROKE " + odd, x.shot(0, odd, 0), -2);
    }
    for (int what : new int[] {-1, 5, LEAST, MOST}) {
      DUE.is("what " + what, x.shot(0, 0, what), -2);
    }
    DUE.is("the last STROKE of PLAYER 1, the last what", x.shot(1, 1, 4), 4);
    DUE.is("no STROKES", new MiddleOfCourt().shot(0, 0, 0), -2);
  }

  private static void comes(int kind, int aim, int from, int want) {
    MiddleOfCourt x = new MiddleOfCourt();
    x.stroke(kind, 0, aim);
    x.set(0, 1, from);
    DUE.is("kind " + kind + ", AIM " + aim + ", from " + from, x.shot(1, 0, 0), want);
  }

  private static void promise5Comes() {
    DUE.promise(5, "COMES: STROKE: AIM; LENGTH: as a STROKE; DROP: as a STROKE");
    for (int kind : new int[] {PLAIN, LENGTH, DROP}) {
      for (int aim : new int[] {0, 4, 12, 20, 24}) {
        comes(kind, aim, 0, aim);
        comes(kind, aim, 24, aim);
      }
    }
    DUE.promise(5, "COMES: LOB: AIM and 5, if AIM is below 20, else AIM");
    for (int aim = 0; aim < 25; aim++) {
      comes(LOB, aim, 0, aim < 20 ? aim + 5 : aim);
    }
    DUE.promise(5, "COMES: BOAST: the CELL across AIM (x is 4 less x)");
    int[] across = {4, 3, 2, 1, 0};
    for (int aim = 0; aim < 25; aim++) {
      comes(BOAST, aim, 0, aim / 5 * 5 + across[aim % 5]);
    }
    DUE.promise(5, "COMES: CROSS: as a LENGTH, but the CELL across that, if x of c is below 2");
    for (int from = 0; from < 25; from++) {
      boolean below = from % 5 == 0 || from % 5 == 1;
      comes(CROSS, 20, from, below ? 24 : 20);
      comes(CROSS, 3, from, below ? 1 : 3);
      comes(CROSS, 12, from, 12);
    }
  }

  private static void promise5FliesBounds() {
    DUE.promise(5, "how long it flies (0 .. 99, else the bound)");
    String[] flies = {"- 1", "0", "1", "98", "99", "100", "9999", "- 9999", "8192 * 8192 * 32", "8192 * 8192 * 32 - 1"};
    int[] want = {0, 0, 1, 98, 99, 99, 99, 0, 0, 99};
    for (int i = 0; i < flies.length; i++) {
      DUE.is("flies " + flies[i], tenths(flies[i], PLAIN, 0, 0), want[i]);
      DUE.is("a LENGTH with 9 more than flies " + flies[i], tenths(flies[i], LENGTH, 9, 0), want[i] + 9);
    }
  }

  private static void promise5SlipsBounds() {
    DUE.promise(5, "of 100 how likely it goes out (0 .. 100, else the bound)");
    String[] slips = {"- 1", "0", "1", "99", "100", "101", "9999", "- 9999", "8192 * 8192 * 32", "8192 * 8192 * 32 - 1"};
    int[] want = {0, 0, 1, 99, 100, 100, 100, 0, 0, 100};
    for (int i = 0; i < slips.length; i++) {
      MiddleOfCourt x = by("0", "0", slips[i]);
      x.stroke(0, 0, 0);
      DUE.is("slips " + slips[i], x.shot(0, 0, 2), want[i]);
    }
  }

  private static void promise5TenthsOfKinds() {
    DUE.promise(5, "TENTHS: STROKE: v; LENGTH: NUMBER more; DROP: half (cut); LOB: 10 more than a LENGTH;"
        + " BOAST: 3 more than a DROP; CROSS: 2 less than a LENGTH");
    for (int v : new int[] {0, 1, 2, 3, 98, 99}) {
      for (int number : new int[] {0, 1, 8, 9}) {
        String flies = Integer.toString(v);
        DUE.is("STROKE " + v, tenths(flies, PLAIN, number, 0), v);
        DUE.is("LENGTH " + v, tenths(flies, LENGTH, number, 0), v + number);
        DUE.is("DROP " + v, tenths(flies, DROP, number, 0), v / 2);
        DUE.is("LOB " + v, tenths(flies, LOB, number, 0), v + number + 10);
        DUE.is("BOAST " + v, tenths(flies, BOAST, number, 0), v / 2 + 3);
        DUE.is("CROSS " + v, tenths(flies, CROSS, number, 0), Math.max(0, v + number - 2));
      }
    }
  }

  private static void promise5TenthsAtLeastZero() {
    DUE.promise(5, "TENTHS 0 at least, in the end");
    DUE.is("CROSS, 0 and NUMBER 0", tenths("0", CROSS, 0, 0), 0);
    DUE.is("CROSS, 0 and NUMBER 1", tenths("0", CROSS, 1, 0), 0);
    DUE.is("CROSS, 0 and NUMBER 2", tenths("0", CROSS, 2, 0), 0);
    DUE.is("CROSS, 0 and NUMBER 3", tenths("0", CROSS, 3, 0), 1);
    DUE.is("CROSS, 1 and NUMBER 0", tenths("1", CROSS, 0, 0), 0);
    DUE.is("CROSS, 2 and NUMBER 0", tenths("2", CROSS, 0, 0), 0);
    DUE.is("CROSS, 3 and NUMBER 0", tenths("3", CROSS, 0, 0), 1);
  }

  private static void promise5TenthsHaveNoMost() {
    DUE.promise(5, "flies is bound, TENTHS are not: 10 more, NUMBER more, 3 more than 99");
    DUE.is("LENGTH", tenths("9999", LENGTH, 9, 0), 108);
    DUE.is("LOB", tenths("9999", LOB, 9, 0), 118);
    DUE.is("CROSS", tenths("9999", CROSS, 9, 0), 106);
    DUE.is("BOAST, warm", tenths("9999", BOAST, 9, 20), 102);
    DUE.is("CROSS: the bound, then 2 less", tenths("9999", CROSS, 0, 0), 97);
    DUE.is("CROSS: the bound, then NUMBER more", tenths("0 - 9999", CROSS, 9, 0), 7);
  }

  private static void promise5DropsWarm() {
    DUE.promise(5, "DROP: half (cut) of a STROKE's, if WARM is below 20, else as a STROKE");
    for (int warm : new int[] {0, 1, 18, 19}) {
      DUE.is("DROP, WARM " + warm, tenths("15", DROP, 9, warm), 7);
      DUE.is("BOAST, WARM " + warm, tenths("15", BOAST, 9, warm), 10);
    }
    for (int warm : new int[] {20, 21, 98, 99}) {
      DUE.is("DROP, WARM " + warm, tenths("15", DROP, 9, warm), 15);
      DUE.is("BOAST, WARM " + warm, tenths("15", BOAST, 9, warm), 18);
    }
    for (int kind : new int[] {PLAIN, LENGTH, LOB, CROSS}) {
      DUE.is("no other KIND, " + kind, tenths("15", kind, 0, 19), tenths("15", kind, 0, 20));
    }
  }

  private static void promise5Spends() {
    DUE.promise(5, "SPENDS: STROKE: 1; LENGTH: as a STROKE; DROP: NUMBER by 2 (cut) more; LOB: 0;"
        + " BOAST: as a DROP; CROSS: 2 more than a LENGTH");
    int[] half = {0, 0, 1, 1, 2, 2, 3, 3, 4, 4};
    for (int number = 0; number <= 9; number++) {
      int[] want = {1, 1, 1 + half[number], 0, 1 + half[number], 3};
      for (int kind = 0; kind < 6; kind++) {
        MiddleOfCourt x = new MiddleOfCourt();
        x.stroke(kind, number, 0);
        DUE.is("kind " + kind + ", NUMBER " + number, x.shot(0, 0, 3), want[kind]);
      }
    }
    MiddleOfCourt x = new MiddleOfCourt();
    x.stroke(DROP, 9, 0);
    x.set(1, 0, 0);
    DUE.is("also of one who has no LEGS", x.shot(0, 0, 3), 5);
  }

  private static void promise5WhatTheOtherNeeds() {
    DUE.promise(5, "what the other one NEEDS there (4)");
    MiddleOfCourt x = new MiddleOfCourt();
    x.stroke(0, 0, 0);
    x.set(2, 0, 0);
    x.set(2, 1, 9);
    DUE.is("one QUICK 9", x.shot(0, 0, 4), 0);
    DUE.is("one QUICK 0", x.shot(1, 0, 4), 18);
    x.set(0, 0, 0);
    DUE.is("where he is", x.shot(1, 0, 4), 0);
    x.set(0, 0, 24);
    DUE.is("from one corner to another", x.shot(1, 0, 4), 36);
    x.set(0, 0, 4);
    DUE.is("along y 0", x.shot(1, 0, 4), 36);
  }

  /** Each word told to flies, slips is one that no other word equals. */
  private static void promise5WhatTheTextIsTold() {
    DUE.promise(5, "flies, slips: NUMBER; FAR from where it is struck to where it COMES; cell: where it COMES;"
        + " legs, quick of who strikes; warm");
    String[] words = {"number", "far", "cell", "legs", "quick", "warm"};
    int[] want = {7, 3, 6, 31, 2, 41};
    for (int i = 0; i < words.length; i++) {
      MiddleOfCourt x = by(words[i], "50 - far * 7", words[i]);
      x.stroke(LOB, 7, 1);
      x.set(0, 0, 24);
      x.set(0, 1, 20);
      x.set(1, 0, 31);
      x.set(1, 1, 29);
      x.set(2, 0, 2);
      x.set(2, 1, 8);
      x.set(6, 0, 41);
      DUE.is("flies " + words[i], x.shot(0, 0, 1), want[i] + 17);
      DUE.is("slips " + words[i], x.shot(0, 0, 2), want[i]);
    }
  }

  // ---- promise 6

  private static void promise6Way() {
    DUE.promise(6, "way: 100 times the one CELL, and the other; BAD");
    MiddleOfCourt x = new MiddleOfCourt();
    int[] bad = {-1, -100, -1200, 25, 99, 1225, 1299, 2425, 2499, 2500, 2512, 9900, LEAST, MOST};
    for (int way : bad) {
      DUE.is("needs(0, " + way + ")", x.needs(0, way), -2);
    }
    for (int player : new int[] {-1, 2, LEAST, MOST}) {
      DUE.is("needs(" + player + ", 0)", x.needs(player, 0), -2);
    }
    DUE.is("the least way", x.needs(0, 0), 0);
    DUE.is("the most", x.needs(0, 2424), 0);
    DUE.is("0 to 24", x.needs(1, 24), 16);
    DUE.is("24 to 0", x.needs(1, 2400), 16);
  }

  private static void promise6Far() {
    DUE.promise(6, "FAR: the greater of how far x, and y, are apart");
    MiddleOfCourt x = by("0", "1", "0");
    int[][] ways = {
      {0, 0, 0}, {0, 1, 1}, {0, 4, 4}, {0, 5, 1}, {0, 20, 4}, {0, 24, 4}, {4, 5, 4}, {5, 4, 4}, {9, 10, 4},
      {4, 20, 4}, {20, 4, 4}, {24, 0, 4}, {12, 12, 0}, {12, 6, 1}, {12, 18, 1}, {12, 14, 2}, {12, 22, 2},
      {1, 13, 2}, {0, 8, 3}, {0, 16, 3}, {19, 20, 4}, {3, 24, 4}
    };
    for (int[] w : ways) {
      DUE.is("from " + w[0] + " to " + w[1], x.needs(0, 100 * w[0] + w[1]), w[2]);
      DUE.is("from " + w[1] + " to " + w[0], x.needs(1, 100 * w[1] + w[0]), w[2]);
    }
  }

  private static void promise6StepsBounds() {
    DUE.promise(6, "tenths of one step (0 .. 99, else the bound)");
    String[] steps = {"- 1", "0", "1", "98", "99", "100", "9999", "- 9999", "8192 * 8192 * 32", "8192 * 8192 * 32 - 1"};
    int[] want = {0, 0, 1, 98, 99, 99, 99, 0, 0, 99};
    for (int i = 0; i < steps.length; i++) {
      MiddleOfCourt x = by("0", steps[i], "0");
      DUE.is("one step of " + steps[i], x.needs(0, 1), want[i]);
      DUE.is("four, times how FAR", x.needs(0, 24), 4 * want[i]);
      DUE.is("none", x.needs(0, 2424), 0);
    }
  }

  private static void promise6WhatTheTextIsTold() {
    DUE.promise(6, "steps: far: how FAR; cell: where he sets out; number 0; legs, quick: of the PLAYER; warm");
    String[] words = {"number", "far", "cell", "legs", "quick", "warm"};
    int[] want = {0, 3, 17, 31, 2, 41};
    for (int i = 0; i < words.length; i++) {
      MiddleOfCourt x = by("9", words[i], "9");
      x.stroke(LOB, 7, 1);
      x.set(0, 0, 24);
      x.set(0, 1, 20);
      x.set(1, 0, 31);
      x.set(1, 1, 29);
      x.set(2, 0, 2);
      x.set(2, 1, 8);
      x.set(6, 0, 41);
      DUE.is("steps " + words[i], x.needs(0, 1704), 3 * want[i]);
      Due.rule(x, "flies 9;steps 7 + " + words[i] + ";slips 9;");
      DUE.is("steps 7 + " + words[i], x.needs(0, 1704), 3 * (7 + want[i]));
    }
  }
}
