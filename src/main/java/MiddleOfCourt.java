/**
 * From the middle of the court: two players in a court of cells, strokes of kinds, a ball that
 * warms, and a rule of texts by which strokes fly, steps take time and strokes slip. The words in
 * capitals of the document stand here as plain names; the document tells what each call promises.
 */
public final class MiddleOfCourt {
  public static final int NONE = -1, BAD = -2, STATE = -3, FULL = -4;
  public static final long NO = -4611686018427387904L;

  private static final int NOTHING_THERE = -11, OUTSIDE = -12, UNLIKE = -13, BELOW_NOTHING = -14;
  private static final int NONE_SUCH = -100, NO_STAND = -100000;

  private static final int CELLS = 25, WIDTH = 5, MIDDLE = 12;
  private static final int MOST_STROKES = 6, MOST_TEXTS = 6, TAPE_ROOM = 160;
  private static final int SHEETS = 4, SHEET_ROOM = 40;
  private static final int MOST_AHEAD = 5, MOST_BALLS = 4, MOST_DRAWN = 40, MOST_SEEDS = 20;
  private static final int MOST_LEGS = 999, MOST_QUICK = 9, MOST_NUMBER = 9, MOST_WARM = 99;
  private static final int MOST_TENTHS = 99, MOST_SLIPS = 100, WARM_ENOUGH = 20;
  private static final long CERTAIN = 1000000000L;

  /** What set() and told() count through; 6 is another thing to each of them. */
  private static final int CELL = 0, LEGS = 1, QUICK = 2, HOME = 3, NUMBER = 4, AIM = 5;
  private static final int WARM = 6, KIND = 6;

  private static final int PLAIN = 0, LENGTH = 1, DROP = 2, LOB = 3, BOAST = 4, CROSS = 5;

  private static final int MISSING = -1, BYTES = 0, SHORTS = 1, INTS = 2;

  private static final String THE_RULE = "flies 8 + far * 3 ; steps 9 - quick ; slips far * 2 ;";

  private final Text[] texts = new Text[MOST_TEXTS];
  private final Tape tape = new Tape();
  private int textCount = 1;

  private final Stroke[] strokeRow = new Stroke[MOST_STROKES];
  private int strokeCount = 0;

  private final Court court;
  /** Where rallies in thought are played; one more for each stroke that is looked ahead. */
  private final Court thought;
  private final Court[] ahead = new Court[MOST_AHEAD + 1];

  private final Court imageCourt;
  private final int[] imageNumbers = new int[MOST_STROKES];
  private final int[] imageAims = new int[MOST_STROKES];
  private int imageStrokes = NONE;

  private final Sheet[] sheets = new Sheet[SHEETS];

  /** What the rally that was played last left to be asked. */
  private final int[] landed = new int[SHEET_ROOM];
  private int struck = 0;
  private long odds = CERTAIN;
  private int blockedAt = NONE;

  private int chosen = NONE;
  private int firstRow = NONE;

  public MiddleOfCourt() {
    for (int i = 0; i < MOST_TEXTS; i++) {
      texts[i] = new Text(i);
    }
    tape.write(THE_RULE);
    tape.readInto(texts[0]);
    tape.size = 0;
    court = new Court(texts[0]);
    thought = new Court(texts[0]);
    imageCourt = new Court(texts[0]);
    for (int i = 0; i <= MOST_AHEAD; i++) {
      ahead[i] = new Court(texts[0]);
    }
    for (int i = 0; i < SHEETS; i++) {
      sheets[i] = new Sheet();
    }
  }

  // ---- players, strokes

  public int set(int what, int of, int v) {
    if (!fits(what, v)) {
      return NONE_SUCH;
    }
    if (what == WARM) {
      int was = court.warm;
      court.warm = v;
      return was;
    }
    if (what <= HOME) {
      return isPlayer(of) ? court.one(of).change(what, v) : NONE_SUCH;
    }
    Stroke with = strokeAt(of);
    return with == null ? NONE_SUCH : with.change(what, v);
  }

  public int stroke(int kind, int number, int aim) {
    if (number < 0 || number > MOST_NUMBER || !isCell(aim)) {
      return BAD;
    }
    if (kind < 0 || kind > CROSS) {
      return BAD;
    }
    if (strokeCount >= MOST_STROKES) {
      return FULL;
    }
    strokeRow[strokeCount] = newStroke(kind, number, aim);
    strokeCount++;
    return strokeCount - 1;
  }

  public int told(int of, int what) {
    if (what >= CELL && what <= HOME) {
      return isPlayer(of) ? court.one(of).value(what) : NONE_SUCH;
    }
    Stroke with = strokeAt(of);
    if (with == null || what < NUMBER || what > KIND) {
      return NONE_SUCH;
    }
    return what == KIND ? with.kind() : with.value(what);
  }

  public int shot(int player, int stroke, int what) {
    Stroke with = strokeAt(stroke);
    if (!isPlayer(player) || with == null) {
      return BAD;
    }
    Player who = court.one(player);
    Player other = court.one(1 - player);
    switch (what) {
      case 0:
        return with.comes(who.cell);
      case 1:
        return court.tenthsOf(who, with);
      case 2:
        return court.slipsOf(who, with);
      case 3:
        return with.spends();
      case 4:
        return court.needsOf(other, other.cell, with.comes(who.cell));
      default:
        return BAD;
    }
  }

  public int needs(int player, int way) {
    if (!isPlayer(player) || way < 0) {
      return BAD;
    }
    int from = way / 100;
    int to = way % 100;
    if (!isCell(from) || !isCell(to)) {
      return BAD;
    }
    return court.needsOf(court.one(player), from, to);
  }

  // ---- texts

  public int feed(int letter) {
    if (letter < 0 || letter > 255) {
      return BAD;
    }
    return tape.add(letter) ? tape.size : FULL;
  }

  public int text() {
    if (textCount >= MOST_TEXTS) {
      return FULL;
    }
    int fault = tape.readInto(texts[textCount]);
    tape.size = 0;
    if (fault != NONE) {
      return NONE_SUCH - fault;
    }
    textCount++;
    return textCount - 1;
  }

  public int force(int text) {
    if (text < 0 || text >= textCount) {
      return BAD;
    }
    int was = court.rule.place;
    court.rule = texts[text];
    return was;
  }

  // ---- rallies

  public int rally(int sheet, int what) {
    if (what < 0 || what > 6) {
      return BAD;
    }
    int refusal = refusalOfRally(sheet);
    if (refusal != 0) {
      return refusal;
    }
    int winner = playInThought(sheet);
    switch (what) {
      case 0:
        return winner;
      case 1:
        return struck;
      case 2:
        return thought.first.legs;
      case 3:
        return thought.second.legs;
      case 4:
        return thought.first.cell;
      case 5:
        return thought.second.cell;
      default:
        return thought.warm;
    }
  }

  public int play(int sheet) {
    int refusal = refusalOfRally(sheet);
    return refusal != 0 ? refusal : playOut(court, sheetAt(sheet));
  }

  public long likely(int sheet) {
    if (refusalOfRally(sheet) != 0) {
      return NO;
    }
    playInThought(sheet);
    return odds;
  }

  // ---- the best stroke

  public int best(int player, int n, int what) {
    if (!isPlayer(player) || n < 0 || n > MOST_AHEAD || what < 0 || what > 1) {
      return NONE_SUCH;
    }
    int value = valueFor(court, player, n, 1);
    return what == 0 ? value : chosen;
  }

  public int sure(int player) {
    if (!isPlayer(player)) {
      return BAD;
    }
    for (int n = 1; n <= MOST_AHEAD; n += 2) {
      if (valueFor(court, player, n, 1) == 1) {
        return n;
      }
    }
    return NONE;
  }

  public int stand(int player, int what) {
    if (!isPlayer(player) || what < 0 || what > 1) {
      return NO_STAND;
    }
    int where = 0;
    int least = badness(player, 0);
    for (int c = 1; c < CELLS; c++) {
      int bad = badness(player, c);
      if (bad < least) {
        least = bad;
        where = c;
      }
    }
    return what == 0 ? where : least;
  }

  public int tires(int player) {
    if (!isPlayer(player)) {
      return BAD;
    }
    Player who = court.one(player);
    Player other = court.one(1 - player);
    int most = -1;
    int tiring = NONE;
    for (int i = 0; i < strokeCount; i++) {
      Stroke with = strokeAt(i);
      int far = with == null ? -1 : apart(other.cell, with.comes(who.cell));
      if (far > most && !court.wouldWin(player, with)) {
        most = far;
        tiring = i;
      }
    }
    return tiring;
  }

  public int inTheWay(int sheet) {
    int refusal = refusalOfRally(sheet);
    if (refusal != 0) {
      return refusal;
    }
    playInThought(sheet);
    return blockedAt;
  }

  // ---- balls that were seen

  public int balls(int sheet, int what) {
    Sheet seen = sheetAt(sheet);
    if (seen == null || what < 0 || what > 1) {
      return BAD;
    }
    if (seen.isMissing()) {
      return NOTHING_THERE;
    }
    if (seen.size > MOST_BALLS) {
      return BAD;
    }
    firstRow = NONE;
    int rows = rowsBy(court, seen, 0, 0);
    return what == 0 ? rows : firstRow;
  }

  public int quicks(int sheet, int what, int who) {
    if (what < 0 || what > 2 || who < NONE || who > 1) {
      return BAD;
    }
    int refusal = refusalOfRally(sheet);
    if (refusal != 0) {
      return refusal;
    }
    Sheet row = sheetAt(sheet);
    return what == 2 ? rulesBy(row, who) : quicksBy(row, what, who);
  }

  public int film(int sheet, int rally) {
    Sheet screen = sheetAt(sheet);
    if (screen == null) {
      return BAD;
    }
    int refusal = refusalOfRally(rally);
    if (refusal != 0) {
      return refusal;
    }
    playInThought(rally);
    screen.become(BYTES, struck);
    for (int i = 0; i < struck && i < landed.length; i++) {
      screen.put(i, landed[i]);
    }
    return struck;
  }

  public int drawn(int seed) {
    if (strokeCount <= 0) {
      return NONE;
    }
    thought.take(court);
    int z = seed;
    for (int i = 0; i < MOST_DRAWN; i++) {
      z = z * 1103515245 + 12345;
      Stroke with = strokeAt((z >>> 9) % strokeCount);
      int striker = i % 2;
      if (with != null && thought.strike(striker, with)) {
        return striker;
      }
    }
    return NONE;
  }

  public long chance(int seed, int n, int part) {
    if (n < 1 || n > MOST_SEEDS || part < 0 || part > 1) {
      return NO;
    }
    int won = 0;
    for (int i = 0; i < n; i++) {
      if (drawn(seed + i) == 0) {
        won++;
      }
    }
    int divisor = n;
    while (divisor > 1 && (won % divisor != 0 || n % divisor != 0)) {
      divisor--;
    }
    return part == 0 ? won / divisor : n / divisor;
  }

  public int image() {
    imageCourt.take(court);
    for (int i = 0; i < strokeCount; i++) {
      Stroke with = strokeAt(i);
      if (with != null) {
        imageNumbers[i] = with.number;
        imageAims[i] = with.aim;
      }
    }
    imageStrokes = strokeCount;
    return strokeCount;
  }

  public int back() {
    if (imageStrokes < 0) {
      return STATE;
    }
    court.take(imageCourt);
    for (int i = 0; i < strokeRow.length; i++) {
      Stroke with = strokeAt(i);
      if (i >= imageStrokes) {
        strokeRow[i] = null;
      } else if (with != null) {
        with.number = imageNumbers[i];
        with.aim = imageAims[i];
      }
    }
    strokeCount = imageStrokes;
    return strokeCount;
  }

  public int count(int what) {
    switch (what) {
      case 0:
        return strokeCount;
      case 1:
        return court.warm;
      case 2:
        return textCount;
      case 3:
        return tape.size;
      case 4:
        return court.rule.place;
      default:
        return BAD;
    }
  }

  // ---- the host

  public int sheet(int sheet, int sort, int n) {
    Sheet row = sheetAt(sheet);
    if (row == null || sort < MISSING || sort > INTS) {
      return BAD;
    }
    if (sort == MISSING) {
      row.become(MISSING, 0);
      return 1;
    }
    if (n > SHEET_ROOM) {
      return BAD;
    }
    if (n < 0) {
      return BELOW_NOTHING;
    }
    row.become(sort, n);
    return 1;
  }

  public int cell(int sheet, int i, int v) {
    Sheet row = sheetAt(sheet);
    if (row == null) {
      return BAD;
    }
    if (row.isMissing()) {
      return NOTHING_THERE;
    }
    if (!row.holds(i, 1)) {
      return OUTSIDE;
    }
    row.put(i, v);
    return 1;
  }

  public int copy(int sheet, int i, int other, int j, int n) {
    Sheet from = sheetAt(sheet);
    Sheet to = sheetAt(other);
    if (from == null || to == null) {
      return BAD;
    }
    if (from.isMissing() || to.isMissing()) {
      return NOTHING_THERE;
    }
    if (from.sort != to.sort) {
      return UNLIKE;
    }
    if (!from.holds(i, n) || !to.holds(j, n)) {
      return OUTSIDE;
    }
    System.arraycopy(from.items, i, to.items, j, n);
    return n;
  }

  public int strokes(int sheet, int sort, int from, int n) {
    Sheet row = sheetAt(sheet);
    if (row == null || sort < BYTES || sort > INTS || n < 0 || n > MOST_STROKES) {
      return BAD;
    }
    if (row.isMissing()) {
      return NOTHING_THERE;
    }
    if (row.sort != sort) {
      return UNLIKE;
    }
    int came = 0;
    for (int k = 0; k < n; k++) {
      int at = from + 3 * k;
      if (!row.holds(at, 3)) {
        return OUTSIDE;
      }
      if (stroke(row.item(at), row.item(at + 1), row.item(at + 2)) >= 0) {
        came++;
      }
    }
    return came;
  }

  public int taken(int stroke, int k) {
    if (k < 0 || k > CROSS) {
      return BAD;
    }
    Stroke with = strokeAt(stroke);
    if (with == null) {
      return NOTHING_THERE;
    }
    return isUnder(with, k) ? with.number : UNLIKE;
  }

  // ---- what the calls share

  private static boolean isPlayer(int player) {
    return player == 0 || player == 1;
  }

  private static boolean isCell(int c) {
    return c >= 0 && c < CELLS;
  }

  private Stroke strokeAt(int i) {
    return i < 0 || i >= strokeCount || i >= strokeRow.length ? null : strokeRow[i];
  }

  private Sheet sheetAt(int i) {
    return i < 0 || i >= sheets.length ? null : sheets[i];
  }

  private static boolean fits(int what, int v) {
    switch (what) {
      case CELL:
      case AIM:
        return isCell(v);
      case LEGS:
        return v >= 0 && v <= MOST_LEGS;
      case QUICK:
        return v >= 0 && v <= MOST_QUICK;
      case HOME:
        return v == NONE || isCell(v);
      case NUMBER:
        return v >= 0 && v <= MOST_NUMBER;
      case WARM:
        return v >= 0 && v <= MOST_WARM;
      default:
        return false;
    }
  }

  private static Stroke newStroke(int kind, int number, int aim) {
    switch (kind) {
      case LENGTH:
        return new Length(number, aim);
      case DROP:
        return new Drop(number, aim);
      case LOB:
        return new Lob(number, aim);
      case BOAST:
        return new Boast(number, aim);
      case CROSS:
        return new Cross(number, aim);
      default:
        return new Stroke(number, aim);
    }
  }

  private static boolean isUnder(Stroke with, int kind) {
    switch (kind) {
      case LENGTH:
        return with instanceof Length;
      case DROP:
        return with instanceof Drop;
      case LOB:
        return with instanceof Lob;
      case BOAST:
        return with instanceof Boast;
      case CROSS:
        return with instanceof Cross;
      default:
        return true;
    }
  }

  private static int apart(int a, int b) {
    return Math.max(Math.abs(a % WIDTH - b % WIDTH), Math.abs(a / WIDTH - b / WIDTH));
  }

  private static int across(int c) {
    return c - c % WIDTH + WIDTH - 1 - c % WIDTH;
  }

  private static int within(int v, int most) {
    return Math.max(0, Math.min(most, v));
  }

  /** The cell where one sets out is not gone over; the one where one comes is. */
  private static boolean goesOver(int from, int to, int third) {
    int x = from % WIDTH;
    int y = from / WIDTH;
    for (int left = apart(from, to); left > 0; left--) {
      x += Integer.compare(to % WIDTH, x);
      y += Integer.compare(to / WIDTH, y);
      if (y * WIDTH + x == third) {
        return true;
      }
    }
    return false;
  }

  /** Why a sheet is no rally; 0: it is one. */
  private int refusalOfRally(int sheet) {
    Sheet row = sheetAt(sheet);
    if (row == null) {
      return BAD;
    }
    if (row.isMissing()) {
      return NOTHING_THERE;
    }
    for (int i = 0; i < row.size; i++) {
      if (strokeAt(row.item(i)) == null) {
        return BAD;
      }
    }
    return 0;
  }

  private int playInThought(int sheet) {
    thought.take(court);
    return playOut(thought, sheetAt(sheet));
  }

  private int playOut(Court on, Sheet row) {
    struck = 0;
    odds = CERTAIN;
    blockedAt = NONE;
    if (row == null) {
      return NONE;
    }
    for (int i = 0; i < row.size && i < landed.length; i++) {
      Stroke with = strokeAt(row.item(i));
      if (with == null) {
        return NONE;
      }
      int striker = i % 2;
      Player who = on.one(striker);
      int struckFrom = who.cell;
      int setOut = on.one(1 - striker).cell;
      landed[i] = with.comes(struckFrom);
      odds = odds * (100 - on.slipsOf(who, with)) / 100;
      struck = i + 1;
      if (on.strike(striker, with)) {
        return striker;
      }
      if (blockedAt == NONE && goesOver(setOut, landed[i], struckFrom)) {
        blockedAt = i;
      }
    }
    return NONE;
  }

  /**
   * The value for who strikes, exact below what is enough. Once it is enough, who struck ahead has
   * a stroke as good already, so the others need no look. The outermost call ends last, so chosen
   * is the stroke of that one.
   */
  private int valueFor(Court on, int striker, int left, int enough) {
    int most = -2;
    int first = NONE;
    for (int i = 0; left > 0 && i < strokeCount && most < enough; i++) {
      int value = valueBy(on, striker, strokeAt(i), left, most);
      if (value > most) {
        most = value;
        first = i;
      }
    }
    chosen = first;
    return first == NONE ? 0 : most;
  }

  private int valueBy(Court on, int striker, Stroke with, int left, int most) {
    if (with == null || left < 1 || left >= ahead.length) {
      return 0;
    }
    if (left == 1) {
      return on.wouldWin(striker, with) ? 1 : 0;
    }
    Court then = ahead[left];
    then.take(on);
    if (then.strike(striker, with)) {
      return 1;
    }
    return -valueFor(then, 1 - striker, left - 1, Math.min(1, -most));
  }

  private int badness(int player, int from) {
    Player who = court.one(player);
    Player other = court.one(1 - player);
    int most = 0;
    for (int i = 0; i < strokeCount; i++) {
      Stroke with = strokeAt(i);
      if (with != null) {
        int to = with.comes(other.cell);
        int late = court.needsOf(who, from, to) - court.tenthsOf(other, with);
        most = i == 0 ? late : Math.max(most, late);
      }
    }
    return most;
  }

  private int rowsBy(Court on, Sheet seen, int place, int digits) {
    if (place >= seen.size || place >= ahead.length) {
      if (firstRow == NONE) {
        firstRow = digits;
      }
      return 1;
    }
    int striker = place % 2;
    boolean last = place == seen.size - 1;
    Court then = ahead[place];
    int rows = 0;
    for (int i = 0; i < strokeCount; i++) {
      Stroke with = strokeAt(i);
      if (with == null || with.comes(on.one(striker).cell) != seen.item(place)) {
        continue;
      }
      then.take(on);
      if (!then.strike(striker, with) || last) {
        rows += rowsBy(then, seen, place + 1, digits * 10 + i + 1);
      }
    }
    return rows;
  }

  private int quicksBy(Sheet row, int player, int winner) {
    int bits = 0;
    for (int quick = 0; quick <= MOST_QUICK; quick++) {
      thought.take(court);
      thought.one(player).quick = quick;
      if (playOut(thought, row) == winner) {
        bits |= 1 << quick;
      }
    }
    return bits;
  }

  private int rulesBy(Sheet row, int winner) {
    int bits = 0;
    for (int i = 0; i < textCount && i < texts.length; i++) {
      thought.take(court);
      thought.rule = texts[i];
      if (playOut(thought, row) == winner) {
        bits |= 1 << i;
      }
    }
    return bits;
  }

  private static final class Player {
    int cell = MIDDLE;
    int legs = 500;
    int quick = 5;
    int home = MIDDLE;

    void take(Player other) {
      cell = other.cell;
      legs = other.legs;
      quick = other.quick;
      home = other.home;
    }

    void tire(int by) {
      legs = Math.max(0, legs - by);
    }

    void go(int to) {
      tire(apart(cell, to));
      cell = to;
    }

    int value(int what) {
      switch (what) {
        case CELL:
          return cell;
        case LEGS:
          return legs;
        case QUICK:
          return quick;
        default:
          return home;
      }
    }

    int change(int what, int v) {
      int was = value(what);
      switch (what) {
        case CELL:
          cell = v;
          break;
        case LEGS:
          legs = v;
          break;
        case QUICK:
          quick = v;
          break;
        default:
          home = v;
          break;
      }
      return was;
    }
  }

  /** All that a stroke goes by and all that it changes, so that one thought is one court. */
  private static final class Court {
    final Player first = new Player();
    final Player second = new Player();
    int warm = 0;
    Text rule;

    Court(Text rule) {
      this.rule = rule;
    }

    void take(Court other) {
      first.take(other.first);
      second.take(other.second);
      warm = other.warm;
      rule = other.rule;
    }

    Player one(int player) {
      return player == 0 ? first : second;
    }

    int needsOf(Player who, int from, int to) {
      int far = apart(from, to);
      if (far == 0) {
        return 0;
      }
      return far * within(rule.reckon(Text.STEPS, who, warm, far, 0, from), MOST_TENTHS);
    }

    int tenthsOf(Player who, Stroke with) {
      int to = with.comes(who.cell);
      int far = apart(who.cell, to);
      int flies = rule.reckon(Text.FLIES, who, warm, far, with.number, to);
      return Math.max(0, with.flight(within(flies, MOST_TENTHS), warm));
    }

    int slipsOf(Player who, Stroke with) {
      int to = with.comes(who.cell);
      int far = apart(who.cell, to);
      return within(rule.reckon(Text.SLIPS, who, warm, far, with.number, to), MOST_SLIPS);
    }

    boolean wouldWin(int striker, Stroke with) {
      Player who = one(striker);
      Player other = one(1 - striker);
      int needed = needsOf(other, other.cell, with.comes(who.cell));
      return needed > 0 && needed > tenthsOf(who, with);
    }

    /** Who strikes reckons the tenths with the legs from before; nothing but legs is lost by a win. */
    boolean strike(int striker, Stroke with) {
      Player who = one(striker);
      Player other = one(1 - striker);
      int to = with.comes(who.cell);
      int tenths = tenthsOf(who, with);
      who.tire(with.spends());
      if (needsOf(other, other.cell, to) > tenths) {
        return true;
      }
      other.go(to);
      if (who.home != NONE && needsOf(who, who.cell, who.home) <= tenths) {
        who.go(who.home);
      }
      warm = Math.min(MOST_WARM, warm + 1);
      return false;
    }
  }

  private static class Stroke {
    int number;
    int aim;

    Stroke(int number, int aim) {
      this.number = number;
      this.aim = aim;
    }

    int kind() {
      return PLAIN;
    }

    int comes(int from) {
      return aim;
    }

    int flight(int flies, int warm) {
      return flies;
    }

    int spends() {
      return 1;
    }

    final int value(int what) {
      return what == NUMBER ? number : aim;
    }

    final int change(int what, int v) {
      int was = value(what);
      if (what == NUMBER) {
        number = v;
      } else {
        aim = v;
      }
      return was;
    }
  }

  private static class Length extends Stroke {
    Length(int number, int aim) {
      super(number, aim);
    }

    int kind() {
      return LENGTH;
    }

    int flight(int flies, int warm) {
      return super.flight(flies, warm) + number;
    }
  }

  private static class Drop extends Stroke {
    Drop(int number, int aim) {
      super(number, aim);
    }

    int kind() {
      return DROP;
    }

    int flight(int flies, int warm) {
      int plain = super.flight(flies, warm);
      return warm < WARM_ENOUGH ? plain / 2 : plain;
    }

    int spends() {
      return super.spends() + number / 2;
    }
  }

  private static final class Lob extends Length {
    Lob(int number, int aim) {
      super(number, aim);
    }

    int kind() {
      return LOB;
    }

    int comes(int from) {
      return aim < CELLS - WIDTH ? aim + WIDTH : aim;
    }

    int flight(int flies, int warm) {
      return super.flight(flies, warm) + 10;
    }

    int spends() {
      return 0;
    }
  }

  private static final class Boast extends Drop {
    Boast(int number, int aim) {
      super(number, aim);
    }

    int kind() {
      return BOAST;
    }

    int comes(int from) {
      return across(aim);
    }

    int flight(int flies, int warm) {
      return super.flight(flies, warm) + 3;
    }
  }

  private static final class Cross extends Length {
    Cross(int number, int aim) {
      super(number, aim);
    }

    int kind() {
      return CROSS;
    }

    int comes(int from) {
      int straight = super.comes(from);
      return from % WIDTH < 2 ? across(straight) : straight;
    }

    int flight(int flies, int warm) {
      return super.flight(flies, warm) - 2;
    }

    int spends() {
      return super.spends() + 2;
    }
  }

  /** Three expressions, each kept with its operators behind what they belong to. */
  private static final class Text {
    static final int FLIES = 0, STEPS = 1, SLIPS = 2;

    /** What is not below 0 in the code is a number. */
    static final int FAR = -1, WARMTH = -2, LEGS_LEFT = -3, QUICKNESS = -4, NUMBER_OF = -5;
    static final int CELL_OF = -6;
    static final int NOT = -7, MINUS = -8;
    static final int OR = -9, AND = -10, LESS = -11, LIKE = -12;
    static final int PLUS = -13, LESS_BY = -14, TIMES = -15;

    final int place;
    private final int[] code = new int[TAPE_ROOM];
    private final int[] stack = new int[TAPE_ROOM];
    private final int[] names = new int[-CELL_OF];
    private final int[] ends = new int[SLIPS + 1];
    private int size = 0;

    Text(int place) {
      this.place = place;
    }

    void clear() {
      size = 0;
    }

    void add(int op) {
      if (size < code.length) {
        code[size] = op;
        size++;
      }
    }

    void endPart(int part) {
      if (part >= 0 && part < ends.length) {
        ends[part] = size;
      }
    }

    int reckon(int part, Player who, int warm, int far, int number, int cell) {
      if (part < 0 || part >= ends.length) {
        return 0;
      }
      names[-1 - FAR] = far;
      names[-1 - WARMTH] = warm;
      names[-1 - LEGS_LEFT] = who.legs;
      names[-1 - QUICKNESS] = who.quick;
      names[-1 - NUMBER_OF] = number;
      names[-1 - CELL_OF] = cell;
      int top = 0;
      for (int i = part == 0 ? 0 : ends[part - 1]; i < ends[part] && i < code.length; i++) {
        top = work(code[i], top);
      }
      return top > 0 ? stack[top - 1] : 0;
    }

    private int work(int op, int top) {
      if (op >= CELL_OF) {
        if (top < 0 || top >= stack.length) {
          return top;
        }
        stack[top] = op >= 0 ? op : names[-1 - op];
        return top + 1;
      }
      if (op >= MINUS) {
        if (top >= 1 && top <= stack.length) {
          stack[top - 1] = op == MINUS ? -stack[top - 1] : stack[top - 1] == 0 ? 1 : 0;
        }
        return top;
      }
      if (top < 2 || top > stack.length) {
        return top;
      }
      stack[top - 2] = join(op, stack[top - 2], stack[top - 1]);
      return top - 1;
    }

    private static int join(int op, int a, int b) {
      switch (op) {
        case OR:
          return a != 0 || b != 0 ? 1 : 0;
        case AND:
          return a != 0 && b != 0 ? 1 : 0;
        case LESS:
          return a < b ? 1 : 0;
        case LIKE:
          return a == b ? 1 : 0;
        case PLUS:
          return a + b;
        case LESS_BY:
          return a - b;
        default:
          return a * b;
      }
    }
  }

  /** The tape, and the reader that makes a text of it: token by token, one look ahead. */
  private static final class Tape {
    /** A sign is a token by its own byte; these lie below all signs. KEY_FLIES + part is its key. */
    private static final int END = 0, DIGITS = 1, NAME = 2, KEY_FLIES = 3, KEY_STEPS = 4;
    private static final int KEY_SLIPS = 5, KEY_OR = 6, KEY_AND = 7, KEY_NOT = 8, WRONG = 9;
    private static final int MOST_OPEN = 5, MOST_DIGITS = 4;

    private final int[] letters = new int[TAPE_ROOM];
    int size = 0;
    private Text into = null;
    private int place = 0;
    private int start = 0;
    private int token = END;
    private int worth = 0;
    private int fault = NONE;

    boolean add(int letter) {
      if (size >= letters.length) {
        return false;
      }
      letters[size] = letter;
      size++;
      return true;
    }

    void write(String line) {
      for (int i = 0; i < line.length(); i++) {
        add(line.charAt(i));
      }
    }

    /** Answers the place of the fault, NONE if there is none. */
    int readInto(Text text) {
      into = text;
      text.clear();
      place = 0;
      fault = NONE;
      next();
      for (int part = Text.FLIES; part <= Text.SLIPS; part++) {
        expect(KEY_FLIES + part);
        readEither(0);
        expect(';');
        text.endPart(part);
      }
      if (token != END) {
        fail();
      }
      return fault;
    }

    /** A token that can stand nowhere ends all reading, so that the first fault stays. */
    private void fail() {
      fault = start;
      token = WRONG;
    }

    private void expect(int wanted) {
      if (token == wanted) {
        next();
      } else {
        fail();
      }
    }

    private void emit(int op) {
      if (into != null) {
        into.add(op);
      }
    }

    private void readEither(int open) {
      readBoth(open);
      for (int n = 0; n < TAPE_ROOM && token == KEY_OR; n++) {
        next();
        readBoth(open);
        emit(Text.OR);
      }
    }

    private void readBoth(int open) {
      readNot(open);
      for (int n = 0; n < TAPE_ROOM && token == KEY_AND; n++) {
        next();
        readNot(open);
        emit(Text.AND);
      }
    }

    private void readNot(int open) {
      if (token == KEY_NOT) {
        if (opens(open)) {
          readNot(open + 1);
          emit(Text.NOT);
        }
        return;
      }
      readSum(open);
      if (token == '<' || token == '=') {
        int op = token == '<' ? Text.LESS : Text.LIKE;
        next();
        readSum(open);
        emit(op);
      }
    }

    private void readSum(int open) {
      readTerm(open);
      for (int n = 0; n < TAPE_ROOM && (token == '+' || token == '-'); n++) {
        int op = token == '+' ? Text.PLUS : Text.LESS_BY;
        next();
        readTerm(open);
        emit(op);
      }
    }

    private void readTerm(int open) {
      readOne(open);
      for (int n = 0; n < TAPE_ROOM && token == '*'; n++) {
        next();
        readOne(open);
        emit(Text.TIMES);
      }
    }

    private void readOne(int open) {
      if (token == DIGITS || token == NAME) {
        emit(worth);
        next();
      } else if (token == '-') {
        if (opens(open)) {
          readOne(open + 1);
          emit(Text.MINUS);
        }
      } else if (token == '(') {
        if (opens(open)) {
          readEither(open + 1);
          expect(')');
        }
      } else {
        fail();
      }
    }

    /** Goes past what opens, if one more may be open. */
    private boolean opens(int open) {
      if (open >= MOST_OPEN) {
        fail();
        return false;
      }
      next();
      return true;
    }

    private int letterAt(int i) {
      return i < 0 || i >= size || i >= letters.length ? END : letters[i];
    }

    private void next() {
      while (place < size && (letterAt(place) == ' ' || letterAt(place) == '\n')) {
        place++;
      }
      start = place;
      int letter = letterAt(place);
      if (place >= size) {
        token = END;
      } else if (isLetter(letter)) {
        nextWord();
      } else if (isDigit(letter)) {
        nextNumber();
      } else {
        token = isSign(letter) ? letter : WRONG;
        place++;
      }
    }

    private static boolean isLetter(int letter) {
      return letter >= 'a' && letter <= 'z';
    }

    private static boolean isDigit(int letter) {
      return letter >= '0' && letter <= '9';
    }

    private static boolean isSign(int letter) {
      switch (letter) {
        case '(':
        case ')':
        case ';':
        case '+':
        case '-':
        case '*':
        case '<':
        case '=':
          return true;
        default:
          return false;
      }
    }

    private void nextNumber() {
      worth = 0;
      while (place < size && isDigit(letterAt(place))) {
        worth = worth * 10 + letterAt(place) - '0';
        place++;
      }
      token = place - start > MOST_DIGITS ? WRONG : DIGITS;
    }

    private void nextWord() {
      while (place < size && isLetter(letterAt(place))) {
        place++;
      }
      worth = nameOfWord();
      token = worth != 0 ? NAME : keyOfWord();
    }

    /** 0: no name. */
    private int nameOfWord() {
      if (isWord("far")) {
        return Text.FAR;
      }
      if (isWord("warm")) {
        return Text.WARMTH;
      }
      if (isWord("legs")) {
        return Text.LEGS_LEFT;
      }
      if (isWord("quick")) {
        return Text.QUICKNESS;
      }
      if (isWord("number")) {
        return Text.NUMBER_OF;
      }
      return isWord("cell") ? Text.CELL_OF : 0;
    }

    private int keyOfWord() {
      if (isWord("flies")) {
        return KEY_FLIES;
      }
      if (isWord("steps")) {
        return KEY_STEPS;
      }
      if (isWord("slips")) {
        return KEY_SLIPS;
      }
      if (isWord("or")) {
        return KEY_OR;
      }
      if (isWord("and")) {
        return KEY_AND;
      }
      return isWord("not") ? KEY_NOT : WRONG;
    }

    private boolean isWord(String word) {
      if (word.length() != place - start) {
        return false;
      }
      for (int i = 0; i < word.length(); i++) {
        int at = start + i;
        if (at < 0 || at >= letters.length || word.charAt(i) != letters[at]) {
          return false;
        }
      }
      return true;
    }
  }

  /** One row for all its sorts: what a sort narrows is narrowed as it is put. */
  private static final class Sheet {
    final int[] items = new int[SHEET_ROOM];
    int sort = MISSING;
    int size = 0;

    boolean isMissing() {
      return sort == MISSING;
    }

    boolean holds(int from, int n) {
      return from >= 0 && n >= 0 && n <= size && from <= size - n;
    }

    void become(int newSort, int newSize) {
      sort = newSort;
      size = within(newSize, SHEET_ROOM);
      for (int i = 0; i < items.length; i++) {
        items[i] = 0;
      }
    }

    int item(int i) {
      return i < 0 || i >= size || i >= items.length ? NONE : items[i];
    }

    void put(int i, int v) {
      if (i >= 0 && i < size && i < items.length) {
        items[i] = sort == BYTES ? (byte) v : sort == SHORTS ? (short) v : v;
      }
    }
  }
}
