/** Counts answers that are as due, and tells those that are not, with the promise they belong to. */
final class Due {
  private String where = "";
  private int right = 0;
  private int wrong = 0;

  /** The promise, and the document's sentence, that the answers from here on belong to. */
  void promise(int number, String sentence) {
    where = "promise " + number + " [" + sentence + "]: ";
  }

  void is(String call, long got, long want) {
    if (got == want) {
      right++;
      return;
    }
    wrong++;
    if (wrong <= 20) {
      System.out.println(where + call + " answered " + got + ", due is " + want);
    }
  }

  boolean hasWrong() {
    return wrong > 0;
  }

  void end(String name) {
    System.out.println(name + ": " + right + " answers as due, " + wrong + " not");
    if (wrong > 0) {
      System.exit(1);
    }
  }

  static void feed(MiddleOfCourt x, String line) {
    for (int i = 0; i < line.length(); i++) {
      x.feed(line.charAt(i));
    }
  }

  static int text(MiddleOfCourt x, String line) {
    feed(x, line);
    return x.text();
  }

  static void rule(MiddleOfCourt x, String line) {
    x.force(text(x, line));
  }

  static void sheet(MiddleOfCourt x, int sheet, int... items) {
    x.sheet(sheet, 2, items.length);
    for (int i = 0; i < items.length; i++) {
      x.cell(sheet, i, items[i]);
    }
  }

  /** A court without HOMES, so that each one stays where a stroke brings him. */
  static MiddleOfCourt homeless() {
    MiddleOfCourt x = new MiddleOfCourt();
    x.set(3, 0, -1);
    x.set(3, 1, -1);
    return x;
  }
}
