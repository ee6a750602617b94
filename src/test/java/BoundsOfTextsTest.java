/** Promises 7 to 9 at their bounds: the tape, each token, what is open, six texts, 32 bits. */
public final class BoundsOfTextsTest {
  private static final Due DUE = new Due();
  private static final int LEAST = Integer.MIN_VALUE, MOST = Integer.MAX_VALUE;
  private static final int ROOM = 160;

  public static void main(String[] args) {
    promise7Bytes();
    promise7Full();
    promise7Behind();
    promise8TapeIsEmptyThen();
    promise8WholeTape();
    promise8EndsTooEarly();
    promise8BytesBetween();
    promise8BytesFirst();
    promise8BytesBehind();
    promise8Words();
    promise8Numbers();
    promise8AsLongAsCanBe();
    promise8Heads();
    promise8Grammar();
    promise8OpenAtMostFive();
    promise8OpenTillItEnds();
    promise8OpenMixed();
    promise8FirstFault();
    promise8Worth();
    promise8Wraps();
    promise8SixTexts();
    promise8FullAheadOfAll();
    promise8FaultLeavesTexts();
    promise8LongFaultsLeaveRoom();
    promise9Force();
    DUE.end("BoundsOfTextsTest");
  }

  private static String padded(String line, int size) {
    StringBuilder all = new StringBuilder(line);
    while (all.length() < size) {
      all.append(all.length() % 3 == 0 ? '\n' : ' ');
    }
    return all.toString();
  }

  private static void fault(String line, int place) {
    MiddleOfCourt x = new MiddleOfCourt();
    DUE.is("[" + line + "]", Due.text(x, line), -100 - place);
    DUE.is("TEXTS behind [" + line + "]", x.count(2), 1);
    DUE.is("THE TAPE behind [" + line + "]", x.count(3), 0);
  }

  private static void reads(String line) {
    MiddleOfCourt x = new MiddleOfCourt();
    DUE.is("[" + line + "]", Due.text(x, line), 1);
    DUE.is("TEXTS behind [" + line + "]", x.count(2), 2);
    DUE.is("THE TAPE behind [" + line + "]", x.count(3), 0);
  }

  private static String whole(String expression) {
    return "flies " + expression + ";steps 0;slips 0;";
  }

  private static void readsOne(String expression) {
    reads(whole(expression));
  }

  private static void faultOf(String expression, int place) {
    fault(whole(expression), 6 + place);
  }

  /** What an expression tells, by the slips of a stroke: 0 to 100; and 20 more, so that none is cut. */
  private static void worth(String expression, int want) {
    MiddleOfCourt x = new MiddleOfCourt();
    x.stroke(0, 6, 22);
    x.set(6, 0, 21);
    x.set(1, 0, 77);
    x.set(2, 0, 8);
    DUE.is(expression, Due.text(x, "flies 0;steps 0;slips " + expression + ";"), 1);
    DUE.is(expression, Due.text(x, "flies 0;steps 0;slips 20 + (" + expression + ");"), 2);
    x.force(1);
    DUE.is(expression, x.shot(0, 0, 2), want);
    x.force(2);
    DUE.is("20 + (" + expression + ")", x.shot(0, 0, 2), 20 + want);
  }

  // ---- promise 7

  private static void promise7Bytes() {
    DUE.promise(7, "A byte (0 .. 255); BAD");
    MiddleOfCourt x = new MiddleOfCourt();
    for (int letter : new int[] {-1, 256, 65536, -255, LEAST, MOST}) {
      DUE.is("feed(" + letter + ")", x.feed(letter), -2);
      DUE.is("none came", x.count(3), 0);
    }
    DUE.is("the least", x.feed(0), 1);
    DUE.is("the most", x.feed(255), 2);
    DUE.is("how many it has", x.count(3), 2);
  }

  private static void promise7Full() {
    DUE.promise(7, "THE TAPE (160 bytes at most): how many it has; FULL");
    MiddleOfCourt x = new MiddleOfCourt();
    for (int n = 1; n <= ROOM; n++) {
      DUE.is("feed " + n, x.feed(n % 256), n);
    }
    DUE.is("a 161st", x.feed(32), -4);
    DUE.is("it stays", x.count(3), ROOM);
    DUE.promise(7, "BAD; FULL: the first that the words name");
    DUE.is("BAD ahead of FULL", x.feed(256), -2);
    DUE.is("BAD ahead of FULL", x.feed(-1), -2);
    DUE.is("it stays", x.count(3), ROOM);
  }

  private static void promise7Behind() {
    DUE.promise(7, "A byte comes behind THE TAPE");
    MiddleOfCourt x = new MiddleOfCourt();
    Due.feed(x, padded("flies 7;steps 0;slips 0;", ROOM));
    DUE.is("FULL", x.feed('!'), -4);
    DUE.is("what was refused is not on it", x.text(), 1);
    DUE.is("the first byte of an empty one", x.feed('!'), 1);
    DUE.is("it is", x.text(), -100);
    for (int n = 1; n <= ROOM; n++) {
      DUE.is("room for 160 again", x.feed(32), n);
    }
    DUE.is("and no more", x.feed(32), -4);
  }

  // ---- promise 8

  private static void promise8TapeIsEmptyThen() {
    DUE.promise(8, "THE TAPE, which is empty then (by a FAULT, too)");
    MiddleOfCourt x = new MiddleOfCourt();
    DUE.is("a TEXT", Due.text(x, whole("1")), 1);
    DUE.is("empty", x.count(3), 0);
    DUE.is("a FAULT", Due.text(x, "flies 1!;"), -107);
    DUE.is("empty", x.count(3), 0);
    DUE.is("an empty one has its FAULT at 0", x.text(), -100);
    DUE.is("a TEXT again", Due.text(x, whole("1")), 2);
  }

  private static void promise8WholeTape() {
    DUE.promise(8, "THE TAPE (160 bytes at most) is a TEXT");
    reads(padded(whole("8"), ROOM));
    reads(padded("flies 8;steps 0;", ROOM - 8) + "slips 9;");
    DUE.promise(8, "-100 less the place of its FAULT: the last byte");
    fault(padded(whole("8"), ROOM - 1) + "!", ROOM - 1);
    fault(padded(whole("8"), ROOM - 1) + ";", ROOM - 1);
    fault(padded("flies 8;steps 0;", ROOM - 5) + "slips", ROOM);
    fault(padded("flies 8;steps 0;", ROOM - 4) + "slip", ROOM - 4);
    fault(padded("flies", ROOM - 4) + "9999", ROOM);
    fault(padded("flies", ROOM - 5) + "99999", ROOM - 5);
    StringBuilder sum = new StringBuilder("flies 0");
    while (sum.length() + 2 + 17 <= ROOM) {
      sum.append("+1");
    }
    int ones = (sum.length() - 7) / 2;
    MiddleOfCourt x = new MiddleOfCourt();
    x.stroke(0, 0, 0);
    DUE.is("a long sum", Due.text(x, padded(sum + ";", ROOM - 16) + "steps 0;slips 0;"), 1);
    x.force(1);
    DUE.is("what it tells", x.shot(0, 0, 1), ones);
  }

  private static void promise8EndsTooEarly() {
    DUE.promise(8, "FAULT: the text's size, if it ends too early");
    String line = "flies ( far * 2 - - 3 ) < 12 and not 5 ; steps 9 - quick ; slips 1 ;";
    reads(line);
    for (int size = 0; size < line.length(); size++) {
      String part = line.substring(0, size);
      String word = part.substring(part.lastIndexOf(' ') + 1);
      boolean cutsWord = word.matches("f|fl|fli|flie|fa|a|an|n|no|s|st|ste|step|sl|sli|slip|q|qu|qui|quic");
      fault(part, cutsWord ? size - word.length() : size);
    }
    fault(padded("", ROOM), ROOM);
    fault(padded("flies", ROOM), ROOM);
    fault(padded("flies 1;steps 1;slips 1", ROOM), ROOM);
    fault(" ", 1);
    fault("\n", 1);
  }

  private static String with(int letter) {
    return Character.toString((char) letter);
  }

  private static void promise8BytesBetween() {
    DUE.promise(8, "SIGNS ( ) ; + - * < = ; blanks (32, 10) may stand between; a byte that begins none");
    for (int letter = 0; letter < 256; letter++) {
      String line = "flies 1 " + with(letter) + " ;steps 1;slips 1;";
      if (letter == 32 || letter == 10) {
        reads(line);
      } else {
        fault(line, ";+-*<=".indexOf(letter) >= 0 ? 10 : 8);
      }
    }
    reads("\n flies\n1 \n;steps 2;\n\nslips 3\n;\n ");
    reads("flies1;steps2;slips3;");
  }

  private static void promise8BytesFirst() {
    DUE.promise(8, "WORDS (a .. z), NUMBERS, SIGNS: what can stand first in an E");
    for (int letter = 0; letter < 256; letter++) {
      String line = "flies " + with(letter) + " ;steps 1;slips 1;";
      if (letter >= '0' && letter <= '9') {
        reads(line);
      } else {
        fault(line, letter == 32 || letter == 10 || letter == '(' || letter == '-' ? 8 : 6);
      }
    }
    DUE.promise(8, "a byte that begins none, ahead of all and behind all");
    for (int letter : new int[] {0, 9, 13, 31, 33, '`', '{', '@', '[', '/', ':', 127, 128, 160, 255}) {
      fault(with(letter) + whole("1"), 0);
      fault(whole("1") + with(letter), 24);
      fault("flies" + with(letter) + "1;", 5);
      fault("flies 1" + with(letter) + ";", 7);
    }
  }

  private static void promise8BytesBehind() {
    DUE.promise(8, "TOKENS, each as long as can be: what ends a WORD, a NUMBER");
    for (int letter = 0; letter < 256; letter++) {
      String behindWord = "flies far" + with(letter) + ";steps 1;slips 1;";
      String behindNumber = "flies 1" + with(letter) + ";steps 1;slips 1;";
      boolean blank = letter == 32 || letter == 10;
      boolean asks = ";+-*<=".indexOf(letter) >= 0;
      if (blank) {
        reads(behindWord);
      } else {
        fault(behindWord, asks ? 10 : letter >= 'a' && letter <= 'z' ? 6 : 9);
      }
      if (blank || letter >= '0' && letter <= '9') {
        reads(behindNumber);
      } else {
        fault(behindNumber, asks ? 8 : 7);
      }
    }
  }

  private static void promise8Words() {
    DUE.promise(8, "a WORD that is neither KEY nor NAME");
    String[] names = {"far", "warm", "legs", "quick", "number", "cell"};
    for (String name : names) {
      readsOne(name);
      faultOf(name.substring(0, name.length() - 1), 0);
      faultOf(name.substring(1), 0);
      faultOf(name + name.charAt(name.length() - 1), 0);
      faultOf(name + "a", 0);
      faultOf(name + "z", 0);
      faultOf("a" + name, 0);
      faultOf("z" + name, 0);
      faultOf(name.substring(0, 1).toUpperCase() + name.substring(1), 0);
      faultOf("1 + " + name.substring(0, name.length() - 1) + "z", 4);
    }
    DUE.promise(8, "flies, steps, slips, or, and, not are KEYS: no NAMES");
    for (String key : new String[] {"flies", "steps", "slips", "or", "and"}) {
      faultOf(key, 0);
      faultOf("1 + " + key, 4);
      faultOf("(" + key + ")", 1);
    }
    faultOf("1 + not 1", 4);
    faultOf("- not 1", 2);
    faultOf("1 * not 1", 4);
    faultOf("1 < not 1", 4);
    faultOf("1 nota 1", 2);
    faultOf("1 an 1", 2);
    faultOf("1 andd 1", 2);
    faultOf("1 o 1", 2);
    faultOf("1 orr 1", 2);
    faultOf("no 1", 0);
  }

  private static void promise8Numbers() {
    DUE.promise(8, "NUMBERS (as many digits as stand there, 4 at most)");
    for (String number : new String[] {"0", "9", "00", "99", "000", "999", "0000", "9999", "0001", "1234"}) {
      readsOne(number);
      worth("(" + number + " = " + Integer.parseInt(number) + ") * 42", 42);
    }
    DUE.promise(8, "a NUMBER that is too long");
    for (String number : new String[] {"00000", "00001", "10000", "99999", "123456", "4294967297"}) {
      faultOf(number, 0);
      faultOf("1 + " + number, 4);
      faultOf("(" + number + ")", 1);
      faultOf("1 " + number, 2);
    }
    readsOne("1234 + 5678 * 9999");
    faultOf("1234 5", 5);
  }

  private static void promise8AsLongAsCanBe() {
    DUE.promise(8, "TOKENS, each as long as can be");
    faultOf("farfar", 0);
    faultOf("notnot 1", 0);
    faultOf("notfar", 0);
    faultOf("1 andfar", 2);
    faultOf("1 orfar", 2);
    faultOf("far2", 3);
    faultOf("2far", 1);
    faultOf("1and 1far", 6);
    readsOne("1and 1or 0");
    readsOne("not(1)and(1)or(1)");
    readsOne("not-1");
    readsOne("--1");
    readsOne("1--1");
    readsOne("1*-1");
    readsOne("1<-1");
    readsOne("1=-1");
    fault("fliesfar;steps 0;slips 0;", 0);
    fault("flie s 1;", 0);
  }

  private static void promise8Heads() {
    DUE.promise(8, "TEXT: flies E ; steps E ; slips E ;");
    fault("1", 0);
    fault(";", 0);
    fault("steps 1;flies 1;slips 1;", 0);
    fault("slips 1;steps 1;flies 1;", 0);
    fault("flies 1;flies 1;slips 1;", 8);
    fault("flies 1;slips 1;steps 1;", 8);
    fault("flies 1;steps 1;steps 1;", 16);
    fault("flies 1;steps 1;flies 1;", 16);
    fault("flies 1;;steps 1;slips 1;", 8);
    fault("flies 1;steps 1;slips 1;;", 24);
    fault("flies 1;steps 1;slips 1;flies 1;", 24);
    fault("flies 1;steps 1;slips 1; 1", 25);
    fault("flies 1 steps 1;slips 1;", 8);
    fault("flies 1)steps 1;slips 1;", 7);
    fault("flies;steps 1;slips 1;", 5);
    fault("flies 1;steps;slips 1;", 13);
    fault("flies 1;steps 1;slips;", 21);
    fault("flies 1;steps 1;slips 1", 23);
    DUE.promise(8, "each of flies, steps, slips tells its own E");
    MiddleOfCourt x = new MiddleOfCourt();
    x.stroke(0, 0, 0);
    Due.rule(x, "flies 11;steps 22;slips 33;");
    DUE.is("flies", x.shot(0, 0, 1), 11);
    DUE.is("steps", x.needs(0, 1), 22);
    DUE.is("slips", x.shot(0, 0, 2), 33);
  }

  private static void promise8Grammar() {
    DUE.promise(8, "AND { or AND }, NOT { and NOT }");
    faultOf("1 or", 4);
    faultOf("1 and", 5);
    faultOf("1 or or 1", 5);
    faultOf("1 and or 1", 6);
    faultOf("1 or and 1", 5);
    faultOf("not", 3);
    faultOf("not not", 7);
    faultOf("1 not", 2);
    faultOf("1 not 1", 2);
    readsOne("1 or not 1 and not 1 or 1");
    DUE.promise(8, "SUM, perhaps < or = and a SUM: one at most");
    faultOf("1 < 2 < 3", 6);
    faultOf("1 = 2 = 3", 6);
    faultOf("1 < 2 = 3", 6);
    faultOf("1 = 2 < 3", 6);
    faultOf("not 1 < 2 < 3", 10);
    faultOf("1 <", 3);
    faultOf("1 < = 2", 4);
    faultOf("< 1", 0);
    readsOne("(1 < 2) < 3");
    readsOne("1 < 2 and 2 < 3 or 3 = 4");
    DUE.promise(8, "TERM { + or - TERM }, ONE { * ONE }");
    faultOf("1 +", 3);
    faultOf("1 -", 3);
    faultOf("1 *", 3);
    faultOf("1 + + 1", 4);
    faultOf("1 + * 1", 4);
    faultOf("1 * * 1", 4);
    faultOf("1 * + 1", 4);
    faultOf("+ 1", 0);
    faultOf("* 1", 0);
    faultOf("- + 1", 2);
    faultOf("-", 1);
    faultOf("()", 1);
    faultOf("(1", 2);
    faultOf("1)", 1);
    faultOf("(1))", 3);
    faultOf("(1 2)", 3);
    faultOf("(1) (2)", 4);
    faultOf("(1;", 2);
  }

  private static void promise8OpenAtMostFive() {
    DUE.promise(8, "a ( while 5 of these are open");
    readsOne("((((1))))");
    readsOne("(((((1)))))");
    faultOf("((((((1))))))", 5);
    faultOf("(((((((1)))))))", 5);
    faultOf("1 + ((((((1))))))", 9);
    DUE.promise(8, "a not while 5 of these are open");
    readsOne("not not not not not 1");
    faultOf("not not not not not not 1", 20);
    DUE.promise(8, "a - ahead of a ONE while 5 of these are open");
    readsOne("-----1");
    faultOf("------1", 5);
    faultOf("1 - ------1", 9);
    DUE.promise(8, "a - that is not ahead of a ONE is never open");
    readsOne("(((((1 - 1 - 1)))))");
    readsOne("-----1 - -----1 - 1");
    readsOne("1 ------1");
    faultOf("1 -------1", 8);
  }

  private static void promise8OpenTillItEnds() {
    DUE.promise(8, "a ( till its )");
    readsOne("(1) + (((((1)))))");
    readsOne("((((1)+(1)+(1))))");
    readsOne("((((1)))) * (((((1)))))");
    faultOf("(1 + (((((1))))))", 9);
    faultOf("(1) + ((((((1))))))", 11);
    readsOne("(1 + (1) + ((((1)))))");
    DUE.promise(8, "not till what it belongs to ends: its NOT");
    readsOne("not 1 and (((((1)))))");
    readsOne("not 1 or (((((1)))))");
    faultOf("not 1 + (((((1)))))", 12);
    faultOf("not 1 < (((((1)))))", 12);
    faultOf("not 1 * (((((1)))))", 12);
    readsOne("not 1 < ((((1))))");
    readsOne("not not not not not 1 and not not not not not 1");
    faultOf("not not not not not 1 < -1", 24);
    DUE.promise(8, "- till what it belongs to ends: its ONE");
    readsOne("- 1 * (((((1)))))");
    readsOne("- 1 + (((((1)))))");
    readsOne("- (1) * (((((1)))))");
    readsOne("-----1 * -----1 < -----1");
    readsOne("- ((((1))))");
    faultOf("- (((((1)))))", 6);
    DUE.promise(8, "of one E nothing is open in the next");
    reads("flies (((((1)))));steps (((((1)))));slips (((((1)))));");
    reads("flies not not not not not 1;steps not not not not not 1;slips -----1;");
  }

  private static void promise8OpenMixed() {
    DUE.promise(8, "5 of these: (, not, - together");
    readsOne("not (not -(1))");
    readsOne("not(not(-1))");
    readsOne("not (-(-1))");
    faultOf("not (-(-(1)))", 8);
    faultOf("(((((not 1)))))", 5);
    faultOf("(((((-1)))))", 5);
    readsOne("((((not 1))))");
    readsOne("((((-1))))");
    faultOf("((((not -1))))", 8);
    faultOf("((((-(1)))))", 5);
    faultOf("-----(1)", 5);
    readsOne("----(1)");
    faultOf("not not not not not (1)", 20);
    faultOf("not not not not not -1", 20);
    readsOne("not not not not -1");
    readsOne("not not not (-1)");
    faultOf("not not not (-(1))", 14);
  }

  private static void promise8FirstFault() {
    DUE.promise(8, "FAULT: the place of the first byte of the first TOKEN that can't stand there");
    faultOf("1 ! 2 ?", 2);
    faultOf("12345 fa", 0);
    faultOf("fa 12345", 0);
    faultOf("1 2 fa", 2);
    faultOf("((((((fa))))))", 5);
    faultOf("(((((fa(", 5);
    fault("flies 1; step 1; !", 9);
    fault("flies   1   2;", 12);
    fault("\n\n  Flies", 4);
  }

  private static void promise8Worth() {
    DUE.promise(8, "of or, and, not, <, = 1 or 0 (what is not 0 is true)");
    worth("2 or 4", 1);
    worth("0 or - 1", 1);
    worth("- 1 or 0", 1);
    worth("0 or 0", 0);
    worth("2 and 4", 1);
    worth("- 1 and - 1", 1);
    worth("2 and 0", 0);
    worth("0 and 2", 0);
    worth("0 and 0", 0);
    worth("not 0", 1);
    worth("not 1", 0);
    worth("not 2", 0);
    worth("not - 1", 0);
    worth("not not 2", 1);
    worth("1 < 1", 0);
    worth("0 < 1", 1);
    worth("1 < 0", 0);
    worth("- 1 < 0", 1);
    worth("0 < - 1", 0);
    worth("1 = 1", 1);
    worth("1 = 0", 0);
    worth("- 1 = 1", 0);
    DUE.promise(8, "what binds: - ONE, then *, then + and -, then < and =, then not, then and, then or");
    worth("2 + 3 * 4", 14);
    worth("(2 + 3) * 4", 20);
    worth("20 - 5 - 3", 12);
    worth("20 - 5 + 3", 18);
    worth("- 2 * 3 + 10", 4);
    worth("10 - - 2 * 3", 16);
    worth("2 * - 3 + 10", 4);
    worth("1 + 1 < 2 + 1", 1);
    worth("1 or 1 and 0", 1);
    worth("(1 or 1) and 0", 0);
    worth("0 and 1 or 1", 1);
    worth("0 and (1 or 1)", 0);
    worth("not 0 and 0", 0);
    worth("not (0 and 0)", 1);
    worth("not 1 or 1", 1);
    worth("not 5 = 0", 1);
    worth("not 5 - 5", 1);
    DUE.promise(8, "NAMES are far warm legs quick number cell");
    worth("far", 2);
    worth("warm", 21);
    worth("legs", 77);
    worth("quick", 8);
    worth("number", 6);
    worth("cell", 22);
  }

  private static void promise8Wraps() {
    DUE.promise(8, "An E is an int (32 bits, wrapping)");
    String least = "8192 * 8192 * 32";
    worth(least + " < 0", 1);
    worth("0 < " + least + " - 1", 1);
    worth(least + " - 1 + 1 < 0", 1);
    worth(least + " < " + least + " - 1", 1);
    worth("- (" + least + ") = " + least, 1);
    worth("8192 * 8192 * 64", 0);
    worth("8192 * 8192 * 64 + 7", 7);
    worth("not 8192 * 8192 * 64", 1);
    worth("8192 * 8192 * 64 or 0", 0);
    worth("8192 * 8192 * 64 and 1", 0);
    worth("9999 * 9999 * 50 - 9999 * 9999 * 50", 0);
    worth("9999 * 9999 * 9999 < 0", 1);
    worth("9999 * 9999 * 22 < 0", 1);
    worth("9999 * 9999 * 21 < 0", 0);
    worth("(" + least + " - 1) * 2 = - 2", 1);
    worth("(" + least + ") * - 1 < 0", 1);
  }

  private static void promise8SixTexts() {
    DUE.promise(8, "There are 6 TEXTS at most, TEXT 0 with them: its number");
    MiddleOfCourt x = new MiddleOfCourt();
    x.stroke(0, 0, 0);
    for (int i = 1; i <= 5; i++) {
      DUE.is("TEXT " + i, Due.text(x, whole(Integer.toString(10 * i))), i);
      DUE.is("how many", x.count(2), i + 1);
    }
    DUE.promise(8, "FULL: no TEXT more has room (THE TAPE stays)");
    Due.feed(x, whole("1"));
    int size = whole("1").length();
    for (int again = 0; again < 2; again++) {
      DUE.is("a seventh", x.text(), -4);
      DUE.is("how many", x.count(2), 6);
      DUE.is("THE TAPE", x.count(3), size);
    }
    DUE.is("a byte behind it", x.feed(32), size + 1);
    for (int i = 5; i >= 1; i--) {
      x.force(i);
      DUE.is("by TEXT " + i, x.shot(0, 0, 1), 10 * i);
    }
    x.force(0);
    DUE.is("by TEXT 0", x.shot(0, 0, 1), 14);
  }

  private static void promise8FullAheadOfAll() {
    DUE.promise(8, "FULL (ahead of all)");
    MiddleOfCourt x = new MiddleOfCourt();
    for (int i = 1; i <= 5; i++) {
      Due.text(x, whole("1"));
    }
    DUE.is("of an empty TAPE", x.text(), -4);
    Due.feed(x, "flies !");
    DUE.is("of one with a FAULT", x.text(), -4);
    DUE.is("THE TAPE stays", x.count(3), 7);
    for (int n = 8; n <= ROOM; n++) {
      x.feed(32);
    }
    DUE.is("of a full one", x.text(), -4);
    DUE.is("THE TAPE stays", x.count(3), ROOM);
    DUE.is("it is full", x.feed(32), -4);
  }

  private static void promise8FaultLeavesTexts() {
    DUE.promise(8, "by a FAULT no TEXT comes; those that are there are as they were");
    MiddleOfCourt x = new MiddleOfCourt();
    x.stroke(0, 0, 0);
    Due.rule(x, "flies 42;steps 7;slips 5;");
    String[] lines = {"", "flies", "flies 1;", "flies 1;steps 2;", "flies 1;steps 2;slips 3", "flies 1;steps 2;slips 3;!"};
    for (String line : lines) {
      DUE.is("[" + line + "]", Due.text(x, line), -100 - (line.endsWith("!") ? 24 : line.length()));
      DUE.is("TEXTS", x.count(2), 2);
      DUE.is("THE RULE", x.count(4), 1);
      DUE.is("flies", x.shot(0, 0, 1), 42);
      DUE.is("slips", x.shot(0, 0, 2), 5);
      DUE.is("steps", x.needs(0, 1), 7);
    }
    DUE.is("the next number", Due.text(x, whole("1")), 2);
    DUE.is("no TEXT is THE RULE by itself", x.count(4), 1);
    DUE.is("flies", x.shot(0, 0, 1), 42);
  }

  private static void promise8LongFaultsLeaveRoom() {
    DUE.promise(8, "by a FAULT no TEXT comes: what was read of it takes no room");
    MiddleOfCourt x = new MiddleOfCourt();
    x.stroke(0, 0, 0);
    String sum = "flies 1" + "+1".repeat(70) + ";!";
    DUE.is("a long FAULT", Due.text(x, sum), -248);
    DUE.is("and again", Due.text(x, sum), -248);
    Due.rule(x, "flies 1" + "+1".repeat(60) + ";steps 1+1;slips 1+1+1;");
    DUE.is("flies", x.shot(0, 0, 1), 61);
    DUE.is("steps", x.needs(0, 1), 2);
    DUE.is("slips", x.shot(0, 0, 2), 3);
  }

  // ---- promise 9

  private static void promise9Force() {
    DUE.promise(9, "A TEXT is THE RULE: which was; BAD");
    MiddleOfCourt x = new MiddleOfCourt();
    for (int text : new int[] {-1, 1, 5, 6, LEAST, MOST}) {
      DUE.is("force(" + text + ")", x.force(text), -2);
      DUE.is("THE RULE stays", x.count(4), 0);
    }
    DUE.is("the one that is", x.force(0), 0);
    for (int i = 1; i <= 5; i++) {
      Due.text(x, whole("1"));
      DUE.is("the last TEXT", x.force(i), i - 1);
      DUE.is("THE RULE", x.count(4), i);
      DUE.is("the one behind it", x.force(i + 1), -2);
      DUE.is("THE RULE stays", x.count(4), i);
    }
    DUE.is("the same again", x.force(5), 5);
    DUE.is("the first", x.force(0), 5);
    DUE.is("it was", x.force(5), 0);
  }
}
