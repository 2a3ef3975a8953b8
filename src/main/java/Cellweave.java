/** A sheet of cells whose formulas lean on each other; DOC.md tells what each call does. */
public final class Cellweave {

  private static final int NONE = -1;
  private static final int REFUSED = -9;
  private static final int GOAL_REFUSED = -9999;
  private static final int GOAL_MISSED = -10000;

  private static final int ROWS = 20;
  private static final int COLUMNS = 8;
  private static final int PLACES = 160;
  private static final int MOST_CELLS = 60;
  // whatIf() may try one CELL more than the sheet may hold; a long has a bit for each.
  private static final int MOST_NUMBERED = 64;
  private static final int NAMES = 6;
  private static final int VERSIONS = 3;
  private static final int MOST_GROUPS = 12;
  private static final int MOST_SIGNS = 40;
  // A typed formula grows when a row of one digit becomes one of two.
  private static final int MOST_TOKENS = 80;
  private static final int MOST_IN_TEXT = 16;
  private static final int MOST_IN_LITERAL = 9;
  private static final int MOST_OPEN = 8;

  // Kinds of VALUES.
  private static final int EMPTY = 0;
  private static final int NUMBER = 1;
  private static final int TEXT = 2;
  private static final int TRUTH = 3;
  private static final int FAULT = 4;

  // Kinds of CELLS.
  private static final int CONSTANT = 1;
  private static final int FORMULA = 2;
  private static final int LIST = 3;

  // FAULTS.
  private static final int CIRCLE = 0;
  private static final int ZERO = 1;
  private static final int KIND = 2;
  private static final int NOT_THERE = 3;
  private static final int GONE = 4;
  private static final int UNNAMED = 5;
  private static final int BAR = 6;
  private static final int LONG = 7;

  // SIGNS.
  private static final String SIGNS = "0123456789abcdefgh$:#+-*&=</(),'nSLMCIKOFUNTX";
  private static final int SIGN_COUNT = 45;
  private static final int LETTER_A = 10;
  private static final int DOLLAR = 18;
  private static final int COLON = 19;
  private static final int HASH = 20;
  private static final int PLUS = 21;
  private static final int MINUS = 22;
  private static final int STAR = 23;
  private static final int AMPERSAND = 24;
  private static final int EQUALS = 25;
  private static final int LESS = 26;
  private static final int SLASH = 27;
  private static final int OPENING = 28;
  private static final int CLOSING = 29;
  private static final int COMMA = 30;
  private static final int QUOTE = 31;
  private static final int LETTER_N = 32;
  private static final int SUM = 33;
  private static final int LEAST = 34;
  private static final int GREATEST = 35;
  private static final int COUNT = 36;
  private static final int CHOICE = 37;
  private static final int LOOK_UP = 38;
  private static final int ORDERED = 39;
  private static final int FILTERED = 40;
  private static final int UNIQUE = 41;
  private static final int IS_FAULT = 42;
  private static final int TRUE_SIGN = 43;
  private static final int FALSE_SIGN = 44;

  // A formula is kept as tokens: SIGNS as they are, "?" for what is GONE, PLACES (with what is
  // HELD of them) and the SIGNS between quotes each in a range of numbers of their own.
  private static final int QUESTION = 45;
  private static final int END = -1;
  private static final int PLACE_TOKENS = 64;
  private static final int LITERAL_TOKENS = 1000;

  // A NUMBER has three limbs for its top and three for its bottom: just 90 binary digits each.
  private static final int LIMB_BITS = 30;
  private static final long LIMB_BASE = 1L << LIMB_BITS;
  private static final long LIMB_MASK = LIMB_BASE - 1L;
  private static final int VALUE_LIMBS = 3;
  // Room for the exact sum of 160 NUMBERS.
  private static final int LIMBS = 500;

  private final int[] typed = new int[MOST_SIGNS];
  private int typedCount;
  private final Reader reader = new Reader();
  private final Shift shift = new Shift();
  private final History history = new History();
  private final Sheet[] versions = new Sheet[VERSIONS];
  private final Evaluator evaluator = new Evaluator();
  private Weave now = new Weave(evaluator);
  private Weave before = new Weave(evaluator);
  private final Weave trial = new Weave(evaluator);
  private final Sheet tried = new Sheet();
  private final boolean[] written = new boolean[PLACES];
  private final boolean[] wasReckoned = new boolean[PLACES];
  private final boolean[] read = new boolean[PLACES];
  private final int[] rowOrder = new int[ROWS];
  private final Value guess = new Value();
  private final Value bound = new Value();
  private final Cell guessCell = new Cell(guess);
  private final StringBuilder page = new StringBuilder();
  private int everReckoned;
  private int knocks;

  public Cellweave() {
    for (int version = 0; version < VERSIONS; version++) {
      versions[version] = new Sheet();
    }
  }

  // ---- the input

  public int sign(int sign) throws IllegalArgumentException, IllegalStateException {
    if (sign < 0 || sign >= SIGN_COUNT) {
      throw new IllegalArgumentException("no such sign");
    }
    if (typedCount >= MOST_SIGNS) {
      throw new IllegalStateException("the input is full");
    }
    type(sign);
    return typedCount;
  }

  public int place(int place, int held) throws IllegalArgumentException, IllegalStateException {
    demandPlace(place);
    if (held < 0 || held > 3) {
      throw new IllegalArgumentException("held is 0 to 3");
    }
    int row = rowOf(place) + 1;
    boolean isRowHeld = (held & 1) != 0;
    boolean isColumnHeld = (held & 2) != 0;
    int more = 1 + (row > 9 ? 2 : 1) + (isRowHeld ? 1 : 0) + (isColumnHeld ? 1 : 0);
    if (typedCount + more > MOST_SIGNS) {
      throw new IllegalStateException("the input is full");
    }
    if (isColumnHeld) {
      type(DOLLAR);
    }
    type(LETTER_A + columnOf(place));
    if (isRowHeld) {
      type(DOLLAR);
    }
    if (row > 9) {
      type(row / 10);
    }
    type(row % 10);
    return typedCount;
  }

  public int rub(int many) throws IllegalArgumentException {
    if (many < 0) {
      throw new IllegalArgumentException("many is below 0");
    }
    typedCount = Math.max(0, typedCount - Math.min(many, MOST_SIGNS));
    return typedCount;
  }

  public String input() {
    page.setLength(0);
    for (int i = 0; i < typedCount && i < MOST_SIGNS; i++) {
      page.append(signShown(typed[i]));
    }
    return page.toString();
  }

  public int fault() {
    return reader.read(typed, typedCount);
  }

  private void type(int sign) {
    if (typedCount >= 0 && typedCount < MOST_SIGNS) {
      typed[typedCount] = sign;
      typedCount++;
    }
  }

  // ---- edits

  public int put(int place) throws IllegalArgumentException {
    demandPlace(place);
    int fault = reader.read(typed, typedCount);
    if (fault != NONE) {
      return fault;
    }
    if (isRefusedAt(place, true)) {
      return REFUSED;
    }
    Sheet sheet = beginEdit(false);
    write(sheet, place, reader.newCell());
    typedCount = 0;
    settle();
    return NONE;
  }

  public int clear(int place) throws IllegalArgumentException {
    demandPlace(place);
    if (isRefusedAt(place, false)) {
      return REFUSED;
    }
    Sheet sheet = beginEdit(false);
    write(sheet, place, null);
    return settle();
  }

  public int copy(int from, int to) throws IllegalArgumentException {
    demandPlace(from);
    demandPlace(to);
    Cell cell = history.sheet().cellAt(from);
    if (isRefusedAt(to, cell != null)) {
      return REFUSED;
    }
    Sheet sheet = beginEdit(false);
    shift.becomeCopy(from, to);
    write(sheet, to, shift.shifted(cell));
    return settle();
  }

  public int fill(int from, int one, int other) throws IllegalArgumentException {
    demandPlace(from);
    demandPlace(one);
    demandPlace(other);
    Cell cell = history.sheet().cellAt(from);
    int box = boxOf(one, other);
    if (isFillRefused(from, box, cell != null)) {
      return REFUSED;
    }
    Sheet sheet = beginEdit(false);
    int many = 0;
    for (int i = 0; i < PLACES; i++) {
      if (i != from && isInBox(box, i)) {
        shift.becomeCopy(from, i);
        write(sheet, i, shift.shifted(cell));
        many++;
      }
    }
    settle();
    return many;
  }

  private boolean isFillRefused(int from, int box, boolean isCell) {
    Sheet sheet = history.sheet();
    int more = 0;
    for (int i = 0; i < PLACES; i++) {
      if (i != from && isInBox(box, i)) {
        if (sheet.isLockedAt(i)) {
          return true;
        }
        more += isCell && sheet.cellAt(i) == null ? 1 : 0;
      }
    }
    return more > 0 && sheet.countCells() + more > MOST_CELLS;
  }

  public String goOn(int first, int many) throws IllegalArgumentException {
    demandPlace(first);
    if (many < 1 || many > 18) {
      throw new IllegalArgumentException("many is 1 to 18");
    }
    if (isGoOnRefused(first, many)) {
      return "-9";
    }
    guess.take(now.shownAt(first + COLUMNS));
    Sheet sheet = beginEdit(false);
    for (int i = 0; i < many; i++) {
      evaluator.add(guess, bound);
      Value next = new Value();
      next.take(guess);
      write(sheet, first + COLUMNS * (2 + i), new Cell(next));
    }
    settle();
    page.setLength(0);
    guess.appendShown(page);
    return page.toString();
  }

  /** Also sets bound to the difference of the two NUMBERS, if it is not REFUSED for these. */
  private boolean isGoOnRefused(int first, int many) {
    Sheet sheet = history.sheet();
    if (first + COLUMNS * (many + 1) >= PLACES
        || !isConstantNumber(sheet, first) || !isConstantNumber(sheet, first + COLUMNS)) {
      return true;
    }
    bound.take(now.shownAt(first + COLUMNS));
    evaluator.subtract(bound, now.shownAt(first));
    guess.take(now.shownAt(first + COLUMNS));
    int more = 0;
    for (int i = 0; i < many; i++) {
      int place = first + COLUMNS * (2 + i);
      evaluator.add(guess, bound);
      if (guess.kind != NUMBER || sheet.isLockedAt(place)) {
        return true;
      }
      more += sheet.cellAt(place) == null ? 1 : 0;
    }
    return sheet.countCells() + more > MOST_CELLS;
  }

  private boolean isConstantNumber(Sheet sheet, int place) {
    return sheet.kindAt(place) == CONSTANT && now.shownAt(place).kind == NUMBER;
  }

  public int putIn(boolean isColumn, int at) throws IllegalArgumentException {
    demandLine(isColumn, at);
    if (!history.sheet().isLastLineFree(isColumn)) {
      return REFUSED;
    }
    int many = 0;
    for (int place = 0; place < PLACES; place++) {
      if (lineOf(isColumn, place) >= at && history.sheet().cellAt(place) != null) {
        many++;
      }
    }
    shift.becomePutIn(isColumn, at);
    rearrange();
    settle();
    return many;
  }

  public int takeOut(boolean isColumn, int at) throws IllegalArgumentException {
    demandLine(isColumn, at);
    int many = 0;
    for (int place = 0; place < PLACES; place++) {
      if (lineOf(isColumn, place) == at) {
        if (history.sheet().isLockedAt(place)) {
          return REFUSED;
        }
        many += history.sheet().cellAt(place) != null ? 1 : 0;
      }
    }
    shift.becomeTakeOut(isColumn, at);
    rearrange();
    settle();
    return many;
  }

  public int move(boolean isColumn, int from, int to) throws IllegalArgumentException {
    demandLine(isColumn, from);
    demandLine(isColumn, to);
    shift.becomeMove(isColumn, from, to);
    int many = 0;
    for (int place = 0; place < PLACES; place++) {
      if (history.sheet().cellAt(place) != null && shift.placeAfter(place) != place) {
        many++;
      }
    }
    rearrange();
    settle();
    return many;
  }

  /** Does what the shift tells to all that the sheet holds. */
  private void rearrange() {
    tried.take(history.sheet());
    Sheet sheet = beginEdit(true);
    sheet.empty();
    for (int place = 0; place < PLACES; place++) {
      int next = shift.placeAfter(place);
      if (next != NONE) {
        sheet.takePlace(next, tried, place);
        sheet.setCell(next, shift.shifted(tried.cellAt(place)));
      }
    }
    for (int name = 0; name < NAMES; name++) {
      int one = tried.cornerOf(name, false);
      int other = tried.cornerOf(name, true);
      if (one != NONE) {
        sheet.setName(name, shift.cornerAfter(one, other), shift.cornerAfter(other, one));
      }
    }
  }

  public int sort(int first, int last, int column) throws IllegalArgumentException {
    if (first < 0 || first >= ROWS || last < first || last >= ROWS
        || column < 0 || column >= COLUMNS) {
      throw new IllegalArgumentException("no such rows or column");
    }
    for (int place = first * COLUMNS; place < (last + 1) * COLUMNS; place++) {
      if (history.sheet().isLockedAt(place) || history.sheet().kindAt(place) >= FORMULA) {
        return REFUSED;
      }
    }
    orderRows(first, last, column);
    tried.take(history.sheet());
    Sheet sheet = beginEdit(true);
    int many = 0;
    for (int row = first; row <= last && row < ROWS; row++) {
      int from = rowOrder[row];
      many += from == row ? 0 : 1;
      for (int i = 0; i < COLUMNS; i++) {
        sheet.setCell(row * COLUMNS + i, tried.cellAt(from * COLUMNS + i));
      }
    }
    settle();
    return many;
  }

  private void orderRows(int first, int last, int column) {
    for (int row = first; row <= last && row < ROWS; row++) {
      Value shown = now.shownAt(row * COLUMNS + column);
      int at = row;
      for (; at > first && at > 0; at--) {
        int above = rowOrder[at - 1];
        if (evaluator.order(now.shownAt(above * COLUMNS + column), shown) <= 0) {
          break;
        }
        rowOrder[at] = above;
      }
      rowOrder[at] = row;
    }
  }

  public int name(int name, int one, int other) throws IllegalArgumentException {
    demandName(name);
    if (one < NONE || one >= PLACES || one != NONE && (other < 0 || other >= PLACES)) {
      throw new IllegalArgumentException("no such corner");
    }
    Sheet sheet = beginEdit(true);
    int was = sheet.cornerOf(name, false) == NONE ? 0 : 1;
    sheet.setName(name, one, other);
    settle();
    return was;
  }

  public int lock(int place, boolean is) throws IllegalArgumentException {
    demandPlace(place);
    Sheet sheet = beginEdit(false);
    int was = sheet.isLockedAt(place) ? 1 : 0;
    sheet.setLock(place, is);
    settle();
    return was;
  }

  public int check(int place, int least, int greatest) throws IllegalArgumentException {
    demandPlace(place);
    Sheet sheet = beginEdit(false);
    sheet.setCheck(place, least, greatest);
    settle();
    return isBadAt(place) ? 1 : 0;
  }

  public int goal(int in, int out, int from, int to, int wanted) throws IllegalArgumentException {
    demandPlace(in);
    demandPlace(out);
    demandThousand(from);
    if (to < from || to > from + 20) {
      throw new IllegalArgumentException("to is from to from + 20");
    }
    if (isRefusedAt(in, true)) {
      return GOAL_REFUSED;
    }
    tried.take(history.sheet());
    bound.setWhole(wanted);
    for (int number = from; number <= to; number++) {
      tryNumber(in, number);
      if (trial.shownAt(out).isAlike(bound)) {
        Value found = new Value();
        found.setWhole(number);
        Sheet sheet = beginEdit(false);
        write(sheet, in, new Cell(found));
        settle();
        return number;
      }
    }
    return GOAL_MISSED;
  }

  /** Reckons what would be shown with a constant NUMBER at a PLACE. */
  private void tryNumber(int place, int number) {
    guess.setWhole(number);
    tried.setCell(place, guessCell);
    trial.reckon(tried);
  }

  public int back(int version) throws IllegalArgumentException {
    demandVersion(version);
    Sheet from = versionAt(version);
    Sheet sheet = beginEdit(true);
    int many = 0;
    for (int place = 0; place < PLACES; place++) {
      if (!hasSameText(sheet, from, place)) {
        sheet.setCell(place, from.cellAt(place));
        many++;
      }
    }
    for (int name = 0; name < NAMES; name++) {
      sheet.takeName(name, from);
    }
    settle();
    return many;
  }

  public int join(int base, int other) throws IllegalArgumentException {
    demandVersion(base);
    demandVersion(other);
    Sheet old = versionAt(base);
    Sheet theirs = versionAt(other);
    int conflicts = joinCells(old, theirs);
    if (tried.countCells() > MOST_CELLS) {
      return REFUSED;
    }
    Sheet sheet = beginEdit(true);
    for (int place = 0; place < PLACES; place++) {
      sheet.setCell(place, tried.cellAt(place));
    }
    for (int name = 0; name < NAMES; name++) {
      if (sheet.hasSameName(name, old)) {
        sheet.takeName(name, theirs);
      }
    }
    settle();
    return conflicts;
  }

  /** Sets what is tried to the sheet with those CELLS that come; answers how many CONFLICTS. */
  private int joinCells(Sheet old, Sheet theirs) {
    tried.take(history.sheet());
    int conflicts = 0;
    for (int place = 0; place < PLACES; place++) {
      if (hasSameText(tried, theirs, place)) {
        continue;
      }
      if (hasSameText(tried, old, place)) {
        tried.setCell(place, theirs.cellAt(place));
      } else if (!hasSameText(theirs, old, place)) {
        conflicts++;
      }
    }
    return conflicts;
  }

  /** Whether it is LOCKED there, or a new CELL there would be one too many. */
  private boolean isRefusedAt(int place, boolean isCell) {
    Sheet sheet = history.sheet();
    return sheet.isLockedAt(place)
        || isCell && sheet.cellAt(place) == null && sheet.countCells() >= MOST_CELLS;
  }

  private Sheet beginEdit(boolean isAllWritten) {
    markAllWritten(isAllWritten);
    return history.begin();
  }

  private void markAllWritten(boolean is) {
    for (int place = 0; place < PLACES; place++) {
      written[place] = is;
    }
  }

  private void write(Sheet sheet, int place, Cell cell) {
    sheet.setCell(place, cell);
    if (place >= 0 && place < PLACES) {
      written[place] = true;
    }
  }

  /** Reckons the sheet behind a change; answers how many were RECKONED. */
  private int settle() {
    Weave older = before;
    before = now;
    now = older;
    Sheet sheet = history.sheet();
    now.reckon(sheet);
    now.followNeeds();
    int many = 0;
    for (int place = 0; place < PLACES; place++) {
      wasReckoned[place] = isReckonedAt(sheet, place);
      many += wasReckoned[place] ? 1 : 0;
    }
    everReckoned += many;
    return many;
  }

  private boolean isReckonedAt(Sheet sheet, int place) {
    Cell cell = sheet.cellAt(place);
    if (cell == null || cell.kind == CONSTANT || now.isCircleAt(place)) {
      return false;
    }
    if (place >= 0 && place < PLACES && written[place] || before.isCircleAt(place)) {
      return true;
    }
    cell.markReads(sheet.names, read);
    for (int i = 0; i < PLACES; i++) {
      if (read[i] && !now.shownAt(i).isAlike(before.shownAt(i))) {
        return true;
      }
    }
    return cell.hasOtherSpan(now, before);
  }

  // ---- groups, versions

  public int open() {
    return history.openGroup();
  }

  public int close() {
    return history.closeGroup();
  }

  public int undo() throws IllegalStateException {
    if (history.past() == 0) {
      throw new IllegalStateException("nothing can be undone");
    }
    history.stepBack();
    markAllWritten(true);
    settle();
    return history.past();
  }

  public int redo() throws IllegalStateException {
    if (history.future() == 0) {
      throw new IllegalStateException("nothing can be done again");
    }
    history.stepForth();
    markAllWritten(true);
    settle();
    return history.future();
  }

  public int keep(int version) throws IllegalArgumentException {
    demandVersion(version);
    Sheet kept = versionAt(version);
    int many = countDiffering(kept);
    kept.take(history.sheet());
    return many;
  }

  private int countDiffering(Sheet version) {
    int many = 0;
    for (int place = 0; place < PLACES; place++) {
      many += hasSameText(history.sheet(), version, place) ? 0 : 1;
    }
    return many;
  }

  private boolean hasSameText(Sheet one, Sheet other, int place) {
    Cell first = one.cellAt(place);
    Cell second = other.cellAt(place);
    if (first == null || second == null) {
      return first == null && second == null;
    }
    return first.hasTextOf(second, page);
  }

  // ---- what is asked of places

  public String value(int place) throws IllegalArgumentException {
    demandPlace(place);
    writeValue(place);
    return page.toString();
  }

  private void writeValue(int place) {
    page.setLength(0);
    now.shownAt(place).appendShown(page);
  }

  public String text(int place) throws IllegalArgumentException {
    demandPlace(place);
    writeText(place);
    return page.toString();
  }

  private void writeText(int place) {
    page.setLength(0);
    Cell cell = history.sheet().cellAt(place);
    if (cell != null) {
      cell.appendText(page);
    }
  }

  public int ofPlace(int place, int what) throws IllegalArgumentException {
    demandPlace(place);
    switch (what) {
      case 0:
        return now.shownAt(place).kind;
      case 1:
        return history.sheet().kindAt(place);
      case 2:
        return now.levelAt(place);
      case 3:
        return now.isOnRingAt(place) ? 1 : 0;
      case 4:
        return Long.bitCount(now.needsAt(place));
      case 5:
        return Long.bitCount(now.needingAt(place));
      case 6:
        return Long.bitCount(now.leaningAt(place));
      case 7:
        return history.sheet().isLockedAt(place) ? 1 : 0;
      case 8:
        return isBadAt(place) ? 1 : 0;
      case 9:
        return place >= 0 && place < PLACES && wasReckoned[place] ? 1 : 0;
      case 10:
        return now.spanAt(place);
      default:
        throw new IllegalArgumentException("what is 0 to 10");
    }
  }

  /** BAD is what shows something else than a NUMBER within its CHECK. */
  private boolean isBadAt(int place) {
    Sheet sheet = history.sheet();
    Value shown = now.shownAt(place);
    if (!sheet.isCheckedAt(place) || shown.kind == EMPTY) {
      return false;
    }
    if (shown.kind != NUMBER) {
      return true;
    }
    bound.setWhole(sheet.leastAt(place));
    if (evaluator.order(shown, bound) < 0) {
      return true;
    }
    bound.setWhole(sheet.greatestAt(place));
    return evaluator.order(shown, bound) > 0;
  }

  public String needs(int place, boolean isBack) throws IllegalArgumentException {
    demandPlace(place);
    writeCells(isBack ? now.needingAt(place) : now.needsAt(place));
    return page.toString();
  }

  public String ring(int place) throws IllegalArgumentException {
    demandPlace(place);
    writeCells(now.leansAt(place) & now.leaningAt(place));
    return page.toString();
  }

  private void writeCells(long cells) {
    page.setLength(0);
    for (int i = 0; i < MOST_NUMBERED; i++) {
      if ((cells >> i & 1L) != 0L) {
        appendListed(now.placeOfCell(i));
      }
    }
  }

  private void appendListed(int place) {
    if (page.length() > 0) {
      page.append(' ');
    }
    page.append(place);
  }

  public int source(int place) throws IllegalArgumentException {
    demandPlace(place);
    return now.originAt(place);
  }

  public String reason(int place) throws IllegalArgumentException {
    demandPlace(place);
    int own = now.originAt(place);
    if (own == NONE) {
      return "";
    }
    gatherReason(own);
    boolean isThinner = true;
    for (int round = 0; round <= MOST_CELLS && isThinner; round++) {
      isThinner = thinOut(place);
    }
    page.setLength(0);
    for (int i = 0; i < PLACES; i++) {
      if (tried.cellAt(i) != null) {
        appendListed(i);
      }
    }
    return page.toString();
  }

  /** Sets what is tried to the CELLS that a REASON begins with. */
  private void gatherReason(int own) {
    Sheet sheet = history.sheet();
    tried.take(sheet);
    long cells = now.leansAt(own);
    for (int place = 0; place < PLACES; place++) {
      if (place != own && !now.isOf(cells, place)) {
        tried.setCell(place, null);
      }
    }
    // A CELL that comes so stands below, so that one way down finds what comes with it, too.
    for (int place = 0; place < PLACES; place++) {
      if (tried.kindAt(place) == LIST) {
        int below = sheet.nextBelow(place);
        if (below != NONE) {
          tried.setCell(below, sheet.cellAt(below));
        }
      }
    }
  }

  /** Takes away what is not wanted, each CELL having its turn; answers whether any was. */
  private boolean thinOut(int place) {
    boolean isThinner = false;
    for (int i = PLACES - 1; i >= 0; i--) {
      Cell cell = tried.cellAt(i);
      if (cell != null) {
        tried.setCell(i, null);
        trial.reckon(tried);
        if (trial.shownAt(place).isAlike(now.shownAt(place))) {
          isThinner = true;
        } else {
          tried.setCell(i, cell);
        }
      }
    }
    return isThinner;
  }

  public String whatIf(int in, int out, int from, int step, int many)
      throws IllegalArgumentException {
    demandPlace(in);
    demandPlace(out);
    demandThousand(from);
    demandThousand(step);
    if (many < 1 || many > 6) {
      throw new IllegalArgumentException("many is 1 to 6");
    }
    tried.take(history.sheet());
    page.setLength(0);
    for (int i = 0; i < many; i++) {
      tryNumber(in, from + i * step);
      if (i > 0) {
        page.append(' ');
      }
      trial.shownAt(out).appendShown(page);
    }
    return page.toString();
  }

  // ---- what is asked of all

  public String reckoned() {
    writeReckoned();
    return page.toString();
  }

  private void writeReckoned() {
    page.setLength(0);
    for (int place = 0; place < PLACES; place++) {
      if (wasReckoned[place]) {
        appendListed(place);
      }
    }
  }

  public String bad() {
    writeBad();
    return page.toString();
  }

  private void writeBad() {
    page.setLength(0);
    for (int place = 0; place < PLACES; place++) {
      if (isBadAt(place)) {
        appendListed(place);
      }
    }
  }

  public String named(int name) throws IllegalArgumentException {
    demandName(name);
    writeName(name);
    return page.toString();
  }

  private void writeName(int name) {
    page.setLength(0);
    int first = history.sheet().cornerOf(name, false);
    if (first != NONE) {
      appendPlace(page, first, 0);
      page.append(':');
      appendPlace(page, history.sheet().cornerOf(name, true), 0);
    }
  }

  public String differs(int version) throws IllegalArgumentException {
    demandVersion(version);
    for (int place = 0; place < PLACES; place++) {
      read[place] = !hasSameText(history.sheet(), versionAt(version), place);
    }
    page.setLength(0);
    for (int place = 0; place < PLACES; place++) {
      if (read[place]) {
        appendListed(place);
      }
    }
    return page.toString();
  }

  public String all() {
    page.setLength(0);
    for (int place = 0; place < PLACES; place++) {
      Cell cell = history.sheet().cellAt(place);
      if (cell != null) {
        if (page.length() > 0) {
          page.append(';');
        }
        appendPlace(page, place, 0);
        page.append(':');
        cell.appendText(page);
      }
    }
    return page.toString();
  }

  public int house(int what) throws IllegalArgumentException {
    switch (what) {
      case 0:
        return history.sheet().countCells();
      case 3:
        return now.countOnRings();
      case 4:
        return now.greatestLevel();
      case 5:
        return countNames();
      case 8:
        return history.past();
      case 9:
        return history.future();
      case 10:
        return everReckoned;
      case 11:
        return knocks;
      case 1:
      case 2:
      case 6:
      case 7:
        return countPlaces(what);
      default:
        throw new IllegalArgumentException("what is 0 to 11");
    }
  }

  private int countNames() {
    int many = 0;
    for (int name = 0; name < NAMES; name++) {
      many += history.sheet().cornerOf(name, false) == NONE ? 0 : 1;
    }
    return many;
  }

  private int countPlaces(int what) {
    Sheet sheet = history.sheet();
    int many = 0;
    for (int place = 0; place < PLACES; place++) {
      boolean counts;
      if (what == 1) {
        counts = sheet.kindAt(place) >= FORMULA;
      } else if (what == 2) {
        counts = now.shownAt(place).kind == FAULT;
      } else {
        counts = what == 6 ? sheet.isLockedAt(place) : isBadAt(place);
      }
      many += counts ? 1 : 0;
    }
    return many;
  }

  public int knock() {
    knocks++;
    return knocks;
  }

  public boolean isSound() {
    Sheet sheet = history.sheet();
    trial.reckon(sheet);
    for (int place = 0; place < PLACES; place++) {
      if (!trial.shownAt(place).isAlike(now.shownAt(place))) {
        return false;
      }
    }
    for (int place = 0; place < PLACES; place++) {
      Cell cell = sheet.cellAt(place);
      if (cell != null && cell.kind != CONSTANT) {
        page.setLength(0);
        cell.appendText(page);
        int fault = reader.read(reader.signsOf(page), page.length());
        if (fault != NONE || !reader.hasRead(cell)) {
          return false;
        }
      }
    }
    return now.isInOrder() && areTextsLeftByPutIn(sheet);
  }

  /** Whether a row PUT IN at 5, if that can be, and TAKEN OUT again leaves all formulas. */
  private boolean areTextsLeftByPutIn(Sheet sheet) {
    if (!sheet.isLastLineFree(false)) {
      return true;
    }
    for (int place = 0; place < PLACES; place++) {
      Cell cell = sheet.cellAt(place);
      if (cell != null && cell.kind != CONSTANT) {
        shift.becomePutIn(false, 5);
        shift.applyTo(cell.tokens, cell.tokens.length);
        shift.becomeTakeOut(false, 5);
        shift.applyTo(shift.handOver(), shift.size());
        if (!shift.hasLeft(cell)) {
          return false;
        }
      }
    }
    return true;
  }

  public long digest() {
    long d = 5800L;
    for (int what = 0; what <= 11; what++) {
      d = d * 31L + house(what);
    }
    d = digestPlaces(d);
    for (int name = 0; name < NAMES; name++) {
      writeName(name);
      d = d * 31L + page.length();
    }
    for (int version = 0; version < VERSIONS; version++) {
      d = d * 31L + lengthOfDiffers(version);
    }
    d = d * 31L + typedCount;
    writeReckoned();
    d = d * 31L + page.length();
    writeBad();
    d = d * 31L + page.length();
    d = d * 31L + fault();
    return d * 31L + (isSound() ? 1L : 0L);
  }

  private long digestPlaces(long before) {
    long d = before;
    for (int place = 0; place < PLACES; place++) {
      boolean isCell = history.sheet().cellAt(place) != null;
      if (isCell || now.shownAt(place).kind != EMPTY) {
        d = d * 31L + place;
        writeValue(place);
        d = d * 31L + page.length();
        writeText(place);
        d = d * 31L + page.length();
        for (int what = 0; what <= 10 && isCell; what++) {
          d = d * 31L + ofPlace(place, what);
        }
      }
    }
    return d;
  }

  /** How many signs differs() has: the digits of the PLACES, and the blanks between. */
  private int lengthOfDiffers(int version) {
    int length = 0;
    for (int place = 0; place < PLACES; place++) {
      if (!hasSameText(history.sheet(), versionAt(version), place)) {
        length += (place > 99 ? 3 : place > 9 ? 2 : 1) + (length > 0 ? 1 : 0);
      }
    }
    return length;
  }

  // ---- what arguments must be

  private static void demandPlace(int place) {
    if (place < 0 || place >= PLACES) {
      throw new IllegalArgumentException("a place is 0 to 159");
    }
  }

  private static void demandLine(boolean isColumn, int line) {
    if (line < 0 || line >= (isColumn ? COLUMNS : ROWS)) {
      throw new IllegalArgumentException("no such row or column");
    }
  }

  private static void demandName(int name) {
    if (name < 0 || name >= NAMES) {
      throw new IllegalArgumentException("a name is 0 to 5");
    }
  }

  private static void demandVersion(int version) {
    if (version < 0 || version >= VERSIONS) {
      throw new IllegalArgumentException("a version is 0 to 2");
    }
  }

  private static void demandThousand(int number) {
    if (number < -999 || number > 999) {
      throw new IllegalArgumentException("a number is -999 to 999");
    }
  }

  private Sheet versionAt(int version) {
    Sheet sheet = version >= 0 && version < VERSIONS ? versions[version] : null;
    return sheet == null ? tried : sheet;
  }

  // ---- places, boxes, signs

  private static int rowOf(int place) {
    return place / COLUMNS;
  }

  private static int columnOf(int place) {
    return place % COLUMNS;
  }

  private static int lineOf(boolean isColumn, int place) {
    return isColumn ? place % COLUMNS : place / COLUMNS;
  }

  /** A box is all PLACES between two corners: its first PLACE and its last one in one number. */
  private static int boxOf(int one, int other) {
    int first = Math.min(rowOf(one), rowOf(other)) * COLUMNS
        + Math.min(columnOf(one), columnOf(other));
    int last = Math.max(rowOf(one), rowOf(other)) * COLUMNS
        + Math.max(columnOf(one), columnOf(other));
    return first * PLACES + last;
  }

  private static boolean isInBox(int box, int place) {
    int first = box / PLACES;
    int last = box % PLACES;
    return rowOf(place) >= rowOf(first) && rowOf(place) <= rowOf(last)
        && columnOf(place) >= columnOf(first) && columnOf(place) <= columnOf(last);
  }

  private static int widthOfBox(int box) {
    return box % PLACES % COLUMNS - box / PLACES % COLUMNS + 1;
  }

  private static int sizeOfBox(int box) {
    return (rowOf(box % PLACES) - rowOf(box / PLACES) + 1) * widthOfBox(box);
  }

  /** The PLACE with a number, row by row, in a box. */
  private static int placeInBox(int box, int number) {
    int width = widthOfBox(box);
    if (width < 1) {
      return NONE;
    }
    return box / PLACES + number / width * COLUMNS + number % width;
  }

  private static boolean isPlaceToken(int token) {
    return token >= PLACE_TOKENS && token < PLACE_TOKENS + 4 * PLACES;
  }

  private static int placeOfToken(int token) {
    return isPlaceToken(token) ? (token - PLACE_TOKENS) % PLACES : 0;
  }

  private static int heldOfToken(int token) {
    return isPlaceToken(token) ? (token - PLACE_TOKENS) / PLACES : 0;
  }

  private static char signShown(int sign) {
    return sign >= 0 && sign < SIGNS.length() ? SIGNS.charAt(sign) : '?';
  }

  private static void appendPlace(StringBuilder out, int place, int held) {
    if ((held & 2) != 0) {
      out.append('$');
    }
    out.append(signShown(LETTER_A + columnOf(place)));
    if ((held & 1) != 0) {
      out.append('$');
    }
    out.append(rowOf(place) + 1);
  }

  private static int tokenAt(int[] tokens, int at) {
    return at >= 0 && at < tokens.length ? tokens[at] : END;
  }

  private static int numberAt(int[] numbers, int at, int otherwise) {
    return at >= 0 && at < numbers.length ? numbers[at] : otherwise;
  }

  private static String faultShown(int fault) {
    switch (fault) {
      case CIRCLE:
        return "#circle";
      case ZERO:
        return "#zero";
      case KIND:
        return "#kind";
      case NOT_THERE:
        return "#none";
      case GONE:
        return "#gone";
      case UNNAMED:
        return "#name";
      case BAR:
        return "#bar";
      default:
        return "#long";
    }
  }

  /** What a PLACE shows. */
  private static final class Value {
    int kind;
    // Of a NUMBER -1, 0 or 1 (its sign), of a text how many signs, of true 1, of a FAULT which.
    int size;
    // Of a NUMBER the limbs of top and bottom, of a text its signs.
    final int[] part = new int[MOST_IN_TEXT];

    void setEmpty() {
      kind = EMPTY;
      size = 0;
    }

    void setFault(int fault) {
      kind = FAULT;
      size = fault;
    }

    void setTruth(boolean is) {
      kind = TRUTH;
      size = is ? 1 : 0;
    }

    void setWhole(int number) {
      long magnitude = number < 0 ? -(long) number : number;
      kind = NUMBER;
      size = Integer.compare(number, 0);
      part[0] = (int) (magnitude & LIMB_MASK);
      part[1] = (int) (magnitude >> LIMB_BITS);
      part[2] = 0;
      part[3] = 1;
      part[4] = 0;
      part[5] = 0;
    }

    /** The signs must be 16 at most. */
    void setText(StringBuilder signs) {
      kind = TEXT;
      size = Math.min(signs.length(), MOST_IN_TEXT);
      for (int i = 0; i < size && i < signs.length(); i++) {
        part[i] = signs.charAt(i);
      }
    }

    void take(Value other) {
      kind = other.kind;
      size = other.size;
      System.arraycopy(other.part, 0, part, 0, MOST_IN_TEXT);
    }

    void countEmptyAsZero() {
      if (kind == EMPTY) {
        setWhole(0);
      }
    }

    boolean isAlike(Value other) {
      if (kind != other.kind || size != other.size) {
        return false;
      }
      int parts = kind == NUMBER ? 2 * VALUE_LIMBS : kind == TEXT ? size : 0;
      for (int i = 0; i < parts && i < MOST_IN_TEXT; i++) {
        if (part[i] != other.part[i]) {
          return false;
        }
      }
      return true;
    }

    int orderAsText(Value other) {
      for (int i = 0; i < size && i < other.size && i < MOST_IN_TEXT; i++) {
        if (part[i] != other.part[i]) {
          return Integer.compare(part[i], other.part[i]);
        }
      }
      return Integer.compare(size, other.size);
    }

    void appendShown(StringBuilder out) {
      if (kind == NUMBER) {
        if (size < 0) {
          out.append('-');
        }
        appendWhole(out, part[2], part[1], part[0]);
        if (part[3] != 1 || part[4] != 0 || part[5] != 0) {
          out.append('/');
          appendWhole(out, part[5], part[4], part[3]);
        }
      } else if (kind == TEXT) {
        for (int i = 0; i < size && i < MOST_IN_TEXT; i++) {
          out.append((char) part[i]);
        }
      } else if (kind == TRUTH) {
        out.append(size == 1 ? "true" : "false");
      } else if (kind == FAULT) {
        out.append(faultShown(size));
      }
    }

    /** Takes nine digits off the end four times, and appends what that makes, 18 at a time. */
    private static void appendWhole(StringBuilder out, long high, long middle, long low) {
      long billion = 1000000000L;
      long h = high;
      long m = middle;
      long l = low;
      long digits = 0L;
      long lowDigits = 0L;
      for (int turn = 0; turn < 4; turn++) {
        m += h % billion << LIMB_BITS;
        h /= billion;
        l += m % billion << LIMB_BITS;
        m /= billion;
        long nine = turn % 2 == 0 ? l % billion : l % billion * billion;
        l /= billion;
        lowDigits += turn < 2 ? nine : 0L;
        digits += turn < 2 ? 0L : nine;
      }
      boolean isBegun = false;
      for (int half = 0; half < 2; half++) {
        long number = half == 0 ? digits : lowDigits;
        for (long unit = 100000000000000000L; unit > 0L; unit /= 10L) {
          long digit = number / unit % 10L;
          isBegun = isBegun || digit != 0L || half == 1 && unit == 1L;
          if (isBegun) {
            out.append((char) ('0' + digit));
          }
        }
      }
    }
  }

  /** A whole number from 0 on: limbs of 30 binary digits, the lowest first, no 0 at the top. */
  private static final class Natural {
    final int[] limb = new int[LIMBS];
    int size;

    void setSmall(int number) {
      limb[0] = number;
      size = number == 0 ? 0 : 1;
    }

    boolean isOne() {
      return size == 1 && limb[0] == 1;
    }

    int limbAt(int at) {
      return at >= 0 && at < size && at < LIMBS ? limb[at] : 0;
    }

    void setLimbs(int low, int middle, int high) {
      limb[0] = low;
      limb[1] = middle;
      limb[2] = high;
      size = high != 0 ? 3 : middle != 0 ? 2 : low != 0 ? 1 : 0;
    }

    void take(Natural other) {
      size = other.size < 0 ? 0 : other.size < LIMBS ? other.size : LIMBS;
      System.arraycopy(other.limb, 0, limb, 0, size);
    }

    int order(Natural other) {
      if (size != other.size) {
        return Integer.compare(size, other.size);
      }
      for (int i = Math.min(size, LIMBS) - 1; i >= 0; i--) {
        if (limb[i] != other.limb[i]) {
          return Integer.compare(limb[i], other.limb[i]);
        }
      }
      return 0;
    }

    /** Neither one may be this. */
    void setProduct(Natural one, Natural other) {
      int room = Math.min(one.size + other.size, LIMBS);
      for (int i = 0; i < room; i++) {
        limb[i] = 0;
      }
      for (int i = 0; i < one.size && i < room; i++) {
        long factor = one.limb[i];
        long carry = 0L;
        for (int j = 0; j < other.size && i + j < room; j++) {
          carry += factor * other.limb[j] + limb[i + j];
          limb[i + j] = (int) (carry & LIMB_MASK);
          carry >>= LIMB_BITS;
        }
        if (i + other.size < room) {
          limb[i + other.size] = (int) carry;
        }
      }
      size = 0;
      for (int i = 0; i < room; i++) {
        size = limb[i] != 0 ? i + 1 : size;
      }
    }

    /** Adds the second to the first; with the sign -1 takes it off (it must not be greater). */
    void setSum(Natural one, Natural other, int sign) {
      int room = Math.min(Math.max(one.size, other.size) + 1, LIMBS);
      long carry = 0L;
      size = 0;
      for (int i = 0; i < room; i++) {
        long mine = i < one.size ? one.limb[i] : 0L;
        long theirs = i < other.size ? other.limb[i] : 0L;
        carry += mine + sign * theirs;
        limb[i] = (int) (carry & LIMB_MASK);
        carry >>= LIMB_BITS;
        size = limb[i] != 0 ? i + 1 : size;
      }
    }

    /** The number times a power of 2 (exponent 0 to 29), in so many limbs, also of 0. */
    void setShifted(Natural number, int exponent, int limbs) {
      int below = 0;
      size = limbs < LIMBS ? limbs : LIMBS;
      for (int i = 0; i < size && i < LIMBS; i++) {
        int own = i < number.size ? number.limb[i] : 0;
        limb[i] = (int) ((own << exponent | below >>> (LIMB_BITS - exponent)) & LIMB_MASK);
        below = own;
      }
    }

    void shiftBack(int exponent) {
      int limbs = size;
      size = 0;
      for (int i = 0; i < limbs && i < LIMBS; i++) {
        int above = i + 1 < limbs && i + 1 < LIMBS ? limb[i + 1] : 0;
        limb[i] = (int) ((limb[i] >>> exponent | above << (LIMB_BITS - exponent)) & LIMB_MASK);
        size = limb[i] != 0 ? i + 1 : size;
      }
    }

    /**
     * Takes a digit's product with another number off, from a limb on, and, if that is too much,
     * adds the other number once again. Answers the digit that was right.
     */
    int takeOff(long digit, Natural other, int at) {
      long carry = 0L;
      int end = other.size;
      if (at < 0 || at + end >= LIMBS) {
        return 0;
      }
      for (int i = 0; i < end; i++) {
        carry += limb[at + i] - digit * other.limb[i];
        limb[at + i] = (int) (carry & LIMB_MASK);
        carry >>= LIMB_BITS;
      }
      carry += limb[at + end];
      limb[at + end] = (int) (carry & LIMB_MASK);
      if (carry >= 0L) {
        return (int) digit;
      }
      carry = 0L;
      for (int i = 0; i < end; i++) {
        carry += (long) limb[at + i] + other.limb[i];
        limb[at + i] = (int) (carry & LIMB_MASK);
        carry >>= LIMB_BITS;
      }
      limb[at + end] = (int) (limb[at + end] + carry & LIMB_MASK);
      return (int) (digit - 1L);
    }
  }

  /** A fraction in lowest terms, its bottom above 0. */
  private static final class Fraction {
    int sign;
    final Natural top = new Natural();
    final Natural bottom = new Natural();

    void setZero() {
      sign = 0;
      top.setSmall(0);
      bottom.setSmall(1);
    }

    void take(Value value) {
      sign = value.size;
      top.setLimbs(value.part[0], value.part[1], value.part[2]);
      bottom.setLimbs(value.part[3], value.part[4], value.part[5]);
    }

    void giveTo(Value value) {
      if (top.size > VALUE_LIMBS || bottom.size > VALUE_LIMBS) {
        value.setFault(LONG);
        return;
      }
      value.kind = NUMBER;
      value.size = sign;
      for (int i = 0; i < VALUE_LIMBS; i++) {
        value.part[i] = top.limbAt(i);
        value.part[VALUE_LIMBS + i] = bottom.limbAt(i);
      }
    }
  }

  /** Reckons with fractions that may be far longer than a NUMBER; all its rows are used again. */
  private static final class Arithmetic {
    final Fraction left = new Fraction();
    final Fraction right = new Fraction();
    private final Natural first = new Natural();
    private final Natural second = new Natural();
    private final Natural third = new Natural();
    private final Natural fourth = new Natural();
    private final Natural common = new Natural();
    private final Natural commonToo = new Natural();
    private final Natural rest = new Natural();
    private final Natural scaled = new Natural();

    /** Sets the first NUMBER to what comes of both. */
    void combine(int sign, Value one, Value other) {
      left.take(one);
      right.take(other);
      if (sign == SLASH && right.sign == 0) {
        one.setFault(ZERO);
        return;
      }
      if (sign == STAR) {
        multiply(right.top, right.bottom);
      } else if (sign == SLASH) {
        multiply(right.bottom, right.top);
      } else {
        right.sign = sign == MINUS ? -right.sign : right.sign;
        addRight();
      }
      left.giveTo(one);
    }

    /**
     * Adds right to left, of which only left may be longer than a NUMBER. What both bottoms have
     * in common is all that can be cut then, so that no common divisor of long ones is sought.
     */
    void addRight() {
      if (right.sign == 0) {
        return;
      }
      divide(left.bottom, right.bottom, third);
      setCommon(rest, right.bottom, common);
      divide(left.bottom, common, third);
      divide(right.bottom, common, fourth);
      first.setProduct(left.top, fourth);
      second.setProduct(right.top, third);
      int order = first.order(second);
      if (left.sign * right.sign >= 0) {
        left.top.setSum(first, second, 1);
        left.sign = right.sign;
      } else if (order > 0) {
        left.top.setSum(first, second, -1);
      } else {
        left.top.setSum(second, first, -1);
        left.sign = order == 0 ? 0 : right.sign;
      }
      if (left.sign == 0) {
        left.setZero();
        return;
      }
      if (common.isOne()) {
        left.bottom.setProduct(third, fourth);
        return;
      }
      divide(left.top, common, first);
      setCommon(rest, common, commonToo);
      divide(left.top, commonToo, first);
      left.top.take(first);
      divide(right.bottom, commonToo, fourth);
      left.bottom.setProduct(third, fourth);
    }

    /** Multiplies left by what stands above and below, cut crosswise ahead of it. */
    private void multiply(Natural above, Natural below) {
      left.sign *= right.sign;
      if (left.sign == 0) {
        left.setZero();
        return;
      }
      setCommon(left.top, below, common);
      setCommon(above, left.bottom, commonToo);
      divide(left.top, common, first);
      divide(above, commonToo, second);
      divide(below, common, third);
      divide(left.bottom, commonToo, fourth);
      left.top.setProduct(first, second);
      left.bottom.setProduct(third, fourth);
    }

    /** How two VALUES stand in a LIST: below 0, 0 or above 0. */
    int order(Value one, Value other) {
      if (one.kind != other.kind) {
        return Integer.compare(one.kind == EMPTY ? FAULT + 1 : one.kind,
            other.kind == EMPTY ? FAULT + 1 : other.kind);
      }
      if (one.kind == TEXT) {
        return one.orderAsText(other);
      }
      if (one.kind != NUMBER) {
        return one.kind == TRUTH ? Integer.compare(one.size, other.size) : 0;
      }
      if (one.size != other.size || one.size == 0) {
        return Integer.compare(one.size, other.size);
      }
      left.take(one);
      right.take(other);
      first.setProduct(left.top, right.bottom);
      second.setProduct(right.top, left.bottom);
      return one.size * first.order(second);
    }

    /**
     * Sets the greatest common divisor of two numbers, not both 0, of three limbs at most (the
     * lower two are one long here): halves what is even, takes the smaller odd one off the other.
     */
    private static void setCommon(Natural one, Natural other, Natural into) {
      if (one.isOne() || other.isOne()) {
        into.setSmall(1);
        return;
      }
      long a = ((long) one.limbAt(1) << LIMB_BITS) + one.limbAt(0);
      long aHigh = one.limbAt(2);
      long b = ((long) other.limbAt(1) << LIMB_BITS) + other.limbAt(0);
      long bHigh = other.limbAt(2);
      int twos = 0;
      for (int turn = 0; turn < 1000 && (a | aHigh) != 0L && (b | bHigh) != 0L; turn++) {
        boolean isOdd = (a & 1L) != 0L;
        boolean isOtherOdd = (b & 1L) != 0L;
        if (isOdd && isOtherOdd) {
          boolean isLess = aHigh < bHigh || aHigh == bHigh && a < b;
          long c = isLess ? b - a : a - b;
          long cHigh = isLess ? bHigh - aHigh : aHigh - bHigh;
          b = isLess ? a : b;
          bHigh = isLess ? aHigh : bHigh;
          a = c < 0L ? c + LIMB_BASE * LIMB_BASE : c;
          aHigh = c < 0L ? cHigh - 1L : cHigh;
          continue;
        }
        twos += isOdd || isOtherOdd ? 0 : 1;
        if (!isOdd) {
          a = a >> 1 | (aHigh & 1L) << 2 * LIMB_BITS - 1;
          aHigh >>= 1;
        }
        if (!isOtherOdd) {
          b = b >> 1 | (bHigh & 1L) << 2 * LIMB_BITS - 1;
          bHigh >>= 1;
        }
      }
      long low = a | b;
      long high = aHigh | bHigh;
      for (int i = 0; i < twos && i < 3 * LIMB_BITS; i++) {
        high = high << 1 | low >> 2 * LIMB_BITS - 1;
        low = low << 1 & LIMB_BASE * LIMB_BASE - 1L;
      }
      into.setLimbs((int) (low & LIMB_MASK), (int) (low >> LIMB_BITS), (int) high);
    }

    /** Long division limb by limb; sets into and rest, none of which may be one of the others. */
    private void divide(Natural number, Natural by, Natural into) {
      int size = by.size;
      int steps = number.size - size;
      rest.take(number);
      into.setSmall(0);
      if (size < 1 || steps < 0 || number.size >= LIMBS) {
        return;
      }
      if (by.isOne()) {
        into.take(number);
        rest.setSmall(0);
        return;
      }
      // With its highest binary digit set, the divisor's head tells each digit but for 2 at most.
      long head = by.limb[size - 1];
      int exponent = 0;
      for (; exponent < LIMB_BITS - 1 && 2L * head < LIMB_BASE; exponent++) {
        head = 2L * head;
      }
      scaled.setShifted(by, exponent, size);
      rest.setShifted(number, exponent, number.size + 1);
      head = scaled.limb[size - 1];
      if (head < 1L) {
        return;
      }
      long next = scaled.limbAt(size - 2);
      for (int j = steps; j >= 0; j--) {
        long above = ((long) rest.limb[j + size] << LIMB_BITS) + rest.limb[j + size - 1];
        long below = rest.limbAt(j + size - 2);
        long digit = above / head;
        long over = above % head;
        for (int turn = 0; turn < 3 && over < LIMB_BASE
            && (digit >= LIMB_BASE || digit * next > (over << LIMB_BITS) + below); turn++) {
          digit--;
          over += head;
        }
        into.limb[j] = rest.takeOff(digit, scaled, j);
        if (into.limb[j] != 0 && into.size == 0) {
          into.size = j + 1;
        }
      }
      rest.shiftBack(exponent);
    }
  }

  /** What stands at a PLACE; it is never changed, so that sheets and VERSIONS may share it. */
  private static final class Cell {
    final int kind;
    // Of a constant; otherwise null.
    final Value constant;
    // Of a formula, from its "=" on.
    final int[] tokens;

    Cell(Value constant) {
      this.kind = CONSTANT;
      this.constant = constant;
      this.tokens = new int[0];
    }

    Cell(int kind, int[] tokens) {
      this.kind = kind;
      this.constant = null;
      this.tokens = tokens;
    }

    void appendText(StringBuilder out) {
      if (constant != null) {
        constant.appendShown(out);
      }
      for (int i = 0; i < tokens.length; i++) {
        int token = tokens[i];
        if (isPlaceToken(token)) {
          appendPlace(out, placeOfToken(token), heldOfToken(token));
        } else {
          out.append(signShown(token >= LITERAL_TOKENS ? token - LITERAL_TOKENS : token));
        }
      }
    }

    /** Formulas of one TEXT have the same tokens; constants of one TEXT may be of two kinds. */
    boolean hasTextOf(Cell other, StringBuilder scratch) {
      if (constant == null || other.constant == null) {
        return kind == other.kind && hasTokens(other.tokens, other.tokens.length);
      }
      if (constant.kind == other.constant.kind) {
        return constant.isAlike(other.constant);
      }
      scratch.setLength(0);
      constant.appendShown(scratch);
      int half = scratch.length();
      other.constant.appendShown(scratch);
      if (scratch.length() != 2 * half) {
        return false;
      }
      for (int i = 0; i < half && half + i < scratch.length(); i++) {
        if (scratch.charAt(i) != scratch.charAt(half + i)) {
          return false;
        }
      }
      return true;
    }

    boolean hasPlaceIn(boolean isColumn, int line) {
      for (int i = 0; i < tokens.length; i++) {
        if (isPlaceToken(tokens[i]) && lineOf(isColumn, placeOfToken(tokens[i])) == line) {
          return true;
        }
      }
      return false;
    }

    boolean hasTokens(int[] others, int many) {
      if (tokens.length != many || many > others.length) {
        return false;
      }
      for (int i = 0; i < tokens.length && i < others.length; i++) {
        if (tokens[i] != others[i]) {
          return false;
        }
      }
      return true;
    }

    /** Marks all PLACES that it READS, and no others. */
    void markReads(int[] names, boolean[] marks) {
      for (int i = 0; i < marks.length; i++) {
        marks[i] = false;
      }
      for (int i = 0; i < tokens.length; i++) {
        int token = tokens[i];
        if (token == LETTER_N) {
          int name = tokenAt(tokens, i + 1);
          int first = numberAt(names, 2 * name, NONE);
          if (first != NONE) {
            markBox(boxOf(first, numberAt(names, 2 * name + 1, first)), marks);
          }
        } else if (isPlaceToken(token)) {
          int place = placeOfToken(token);
          int sign = tokenAt(tokens, i + 1);
          int other = place;
          if (sign == COLON) {
            other = placeOfToken(tokenAt(tokens, i + 2));
          } else if (sign == HASH) {
            other = PLACES - COLUMNS + columnOf(place);
          }
          markBox(boxOf(place, other), marks);
        }
      }
    }

    private static void markBox(int box, boolean[] marks) {
      int first = box / PLACES;
      int last = box % PLACES;
      int width = widthOfBox(box);
      for (int row = first; row >= 0 && row <= last; row += COLUMNS) {
        for (int place = row; place < row + width && place < marks.length; place++) {
          marks[place] = true;
        }
      }
    }

    /** Whether a range with "#" has a LIST that shows more or fewer VALUES in the other weave. */
    boolean hasOtherSpan(Weave one, Weave other) {
      for (int i = 0; i < tokens.length; i++) {
        if (isPlaceToken(tokens[i]) && tokenAt(tokens, i + 1) == HASH) {
          int place = placeOfToken(tokens[i]);
          if (one.spanAt(place) != other.spanAt(place)) {
            return true;
          }
        }
      }
      return false;
    }
  }

  /** Where PLACES come to: by a COPY, or by rows or columns that are PUT IN, TAKEN OUT, MOVED. */
  private static final class Shift {
    private static final int COPIED = 0;
    private static final int IS_PUT_IN = 1;
    private static final int TAKEN_OUT = 2;
    private static final int MOVED = 3;

    private int kind;
    private boolean isColumn;
    // The line and the one it goes to; of a COPY by how many rows and columns.
    private int one;
    private int other;
    private int[] tokens = new int[MOST_TOKENS];
    private int[] spare = new int[MOST_TOKENS];
    private int size;

    void becomeCopy(int from, int to) {
      kind = COPIED;
      one = rowOf(to) - rowOf(from);
      other = columnOf(to) - columnOf(from);
    }

    void becomePutIn(boolean isColumn, int at) {
      become(IS_PUT_IN, isColumn, at, at);
    }

    void becomeTakeOut(boolean isColumn, int at) {
      become(TAKEN_OUT, isColumn, at, at);
    }

    void becomeMove(boolean isColumn, int from, int to) {
      become(MOVED, isColumn, from, to);
    }

    private void become(int kind, boolean isColumn, int one, int other) {
      this.kind = kind;
      this.isColumn = isColumn;
      this.one = one;
      this.other = other;
    }

    private int lineAfter(int line) {
      if (kind == IS_PUT_IN) {
        return line >= one ? line + 1 : line;
      }
      if (line == one) {
        return kind == TAKEN_OUT ? NONE : other;
      }
      if (kind == TAKEN_OUT) {
        return line > one ? line - 1 : line;
      }
      if (line > one && line <= other) {
        return line - 1;
      }
      return line < one && line >= other ? line + 1 : line;
    }

    /** NONE is what is GONE. */
    int placeAfter(int place) {
      int line = lineAfter(lineOf(isColumn, place));
      if (line == NONE) {
        return NONE;
      }
      return isColumn ? rowOf(place) * COLUMNS + line : line * COLUMNS + columnOf(place);
    }

    private static int placeOf(int row, int column) {
      boolean isThere = row >= 0 && row < ROWS && column >= 0 && column < COLUMNS;
      return isThere ? row * COLUMNS + column : NONE;
    }

    /** A corner, its partner told: in the line that is TAKEN OUT it goes towards its partner. */
    int cornerAfter(int corner, int partner) {
      int line = lineOf(isColumn, corner);
      int partnerLine = lineOf(isColumn, partner);
      if (kind != TAKEN_OUT || line != one || partnerLine == one) {
        return placeAfter(corner);
      }
      int back = partnerLine > one ? 0 : isColumn ? 1 : COLUMNS;
      return corner - back;
    }

    private int tokenAfter(int token, int partner) {
      int place = placeOfToken(token);
      int held = heldOfToken(token);
      int next;
      if (kind == COPIED) {
        next = placeOf(rowOf(place) + ((held & 1) != 0 ? 0 : one),
            columnOf(place) + ((held & 2) != 0 ? 0 : other));
      } else {
        next = cornerAfter(place, placeOfToken(partner));
      }
      return next == NONE ? QUESTION : token - place + next;
    }

    Cell shifted(Cell cell) {
      if (cell == null || cell.kind == CONSTANT) {
        return cell;
      }
      applyTo(cell.tokens, cell.tokens.length);
      if (cell.hasTokens(tokens, size)) {
        return cell;
      }
      int[] own = new int[Math.max(0, Math.min(size, MOST_TOKENS))];
      System.arraycopy(tokens, 0, own, 0, own.length);
      return new Cell(cell.kind, own);
    }

    void applyTo(int[] from, int many) {
      size = 0;
      for (int i = 0; i < many && i < from.length; i++) {
        int token = from[i];
        int sign = i + 1 < many ? tokenAt(from, i + 1) : END;
        if (!isPlaceToken(token)) {
          append(token);
        } else if (sign == COLON) {
          int partner = tokenAt(from, i + 2);
          appendRange(tokenAfter(token, partner), tokenAfter(partner, token));
          i += 2;
        } else {
          int next = tokenAfter(token, token);
          append(next);
          i += sign == HASH && next == QUESTION ? 1 : 0;
        }
      }
    }

    private void appendRange(int corner, int partner) {
      if (corner == QUESTION || partner == QUESTION) {
        append(QUESTION);
        return;
      }
      append(corner);
      append(COLON);
      append(partner);
    }

    private void append(int token) {
      if (size >= 0 && size < MOST_TOKENS) {
        tokens[size] = token;
        size++;
      }
    }

    /** Gives out what was made, and a row of its own to what is made next. */
    int[] handOver() {
      int[] made = tokens;
      tokens = spare;
      spare = made;
      return made;
    }

    int size() {
      return size;
    }

    boolean hasLeft(Cell cell) {
      return cell.hasTokens(tokens, size);
    }
  }

  /** Reads SIGNS as a constant or a formula, and tells where they cannot go on. */
  private static final class Reader {
    private final int[] textSigns = new int[MOST_TOKENS];
    private int[] signs = textSigns;
    private int count;
    private int at;
    private final int[] tokens = new int[MOST_TOKENS];
    private int size;
    private int kind;
    // Of a constant NUMBER.
    private boolean isNumber;
    private int top;
    private int bottom;

    /** Answers the FAULT OF THE INPUT. */
    int read(int[] from, int many) {
      signs = from;
      count = Math.max(0, Math.min(many, from.length));
      at = 0;
      size = 0;
      if (count == 0) {
        return 0;
      }
      if (peek() != EQUALS) {
        kind = CONSTANT;
        readNumber();
        return isNumber || count <= MOST_IN_TEXT ? NONE : MOST_IN_TEXT;
      }
      take(EQUALS);
      int sign = peek();
      boolean isList = sign == ORDERED || sign == UNIQUE || sign == FILTERED;
      kind = isList ? LIST : FORMULA;
      boolean isRead = isList ? list(sign) : expression(0);
      return isRead && at == count ? NONE : at;
    }

    /** The SIGNS of a TEXT, in which "?" may stand. */
    int[] signsOf(StringBuilder text) {
      for (int i = 0; i < text.length() && i < MOST_TOKENS; i++) {
        int sign = SIGNS.indexOf(text.charAt(i));
        textSigns[i] = sign < 0 ? QUESTION : sign;
      }
      return textSigns;
    }

    Cell newCell() {
      if (kind != CONSTANT) {
        int[] own = new int[Math.max(0, Math.min(size, MOST_TOKENS))];
        System.arraycopy(tokens, 0, own, 0, own.length);
        return new Cell(kind, own);
      }
      Value constant = new Value();
      if (isNumber) {
        constant.setWhole(top);
        constant.part[3] = bottom;
      } else {
        constant.kind = TEXT;
        constant.size = Math.min(count, MOST_IN_TEXT);
        for (int i = 0; i < count && i < signs.length && i < MOST_IN_TEXT; i++) {
          constant.part[i] = signShown(signs[i]);
        }
      }
      return new Cell(constant);
    }

    boolean hasRead(Cell cell) {
      return cell.hasTokens(tokens, size);
    }

    private void readNumber() {
      int start = peek() == MINUS ? 1 : 0;
      int end = endOfDigits(start, 6);
      isNumber = end > start;
      top = digitsAsNumber(start, end);
      bottom = 1;
      if (isNumber && tokenAt(signs, end) == SLASH && end < count) {
        int last = endOfDigits(end + 1, 3);
        bottom = digitsAsNumber(end + 1, last);
        isNumber = bottom > 0;
        end = last;
      }
      isNumber = isNumber && end == count;
      if (isNumber) {
        int common = Math.max(1, commonOf(top, bottom));
        top = (start == 1 ? -top : top) / common;
        bottom /= common;
      }
    }

    private int endOfDigits(int start, int most) {
      int end = start;
      for (int i = 0; i < most && end < count && isDigit(tokenAt(signs, end)); i++) {
        end++;
      }
      return end;
    }

    private int digitsAsNumber(int start, int end) {
      int number = 0;
      for (int i = start; i < end && i < signs.length; i++) {
        number = number * 10 + tokenAt(signs, i);
      }
      return number;
    }

    private static int commonOf(int one, int other) {
      int a = one;
      int b = other;
      for (int turn = 0; turn < 100 && b > 0; turn++) {
        int rest = a % b;
        a = b;
        b = rest;
      }
      return a;
    }

    private static boolean isDigit(int sign) {
      return sign >= 0 && sign <= 9;
    }

    private int peek() {
      return at >= 0 && at < count && at < signs.length ? signs[at] : END;
    }

    private void append(int token) {
      if (size >= 0 && size < MOST_TOKENS) {
        tokens[size] = token;
        size++;
      }
    }

    /** Goes on behind a sign, if it is the next one. */
    private boolean take(int sign) {
      if (peek() != sign) {
        return false;
      }
      append(sign);
      at++;
      return true;
    }

    private boolean list(int sign) {
      return take(sign) && take(OPENING) && range()
          && (sign != FILTERED || take(COMMA) && range()) && take(CLOSING);
    }

    /** The depth is how many "(" are open. */
    private boolean expression(int depth) {
      if (!total(depth)) {
        return false;
      }
      int sign = peek();
      return sign != EQUALS && sign != LESS || take(sign) && total(depth);
    }

    private boolean total(int depth) {
      boolean isRead = product(depth);
      for (int turn = 0; turn < MOST_TOKENS && isRead; turn++) {
        int sign = peek();
        if (sign != PLUS && sign != MINUS && sign != AMPERSAND) {
          break;
        }
        isRead = take(sign) && product(depth);
      }
      return isRead;
    }

    private boolean product(int depth) {
      boolean isRead = factor(depth);
      for (int turn = 0; turn < MOST_TOKENS && isRead; turn++) {
        int sign = peek();
        if (sign != STAR && sign != SLASH) {
          break;
        }
        isRead = take(sign) && factor(depth);
      }
      return isRead;
    }

    private boolean factor(int depth) {
      for (int turn = 0; turn < MOST_TOKENS && peek() == MINUS; turn++) {
        take(MINUS);
      }
      int sign = peek();
      if (isDigit(sign)) {
        return wholeNumber();
      }
      switch (sign) {
        case QUOTE:
          return literal();
        case TRUE_SIGN:
        case FALSE_SIGN:
          return take(sign);
        case OPENING:
          return bracket(depth) && expression(depth + 1) && take(CLOSING);
        case SUM:
        case LEAST:
        case GREATEST:
          return take(sign) && bracket(depth) && range() && take(CLOSING);
        case COUNT:
          return take(sign) && bracket(depth) && range() && take(COMMA)
              && expression(depth + 1) && take(CLOSING);
        case CHOICE:
          return take(sign) && bracket(depth) && expression(depth + 1) && take(COMMA)
              && expression(depth + 1) && take(COMMA) && expression(depth + 1) && take(CLOSING);
        case LOOK_UP:
          return take(sign) && bracket(depth) && expression(depth + 1) && take(COMMA)
              && range() && take(COMMA) && range() && take(CLOSING);
        case IS_FAULT:
          return take(sign) && bracket(depth) && expression(depth + 1) && take(CLOSING);
        default:
          return aPlace();
      }
    }

    private boolean bracket(int depth) {
      return depth < MOST_OPEN && take(OPENING);
    }

    private boolean wholeNumber() {
      for (int i = 0; i < 4 && isDigit(peek()); i++) {
        take(peek());
      }
      return true;
    }

    private boolean literal() {
      take(QUOTE);
      for (int i = 0; i < MOST_IN_LITERAL && peek() != QUOTE && peek() != END; i++) {
        append(LITERAL_TOKENS + peek());
        at++;
      }
      return take(QUOTE);
    }

    private boolean range() {
      if (take(LETTER_N)) {
        int name = peek();
        return name >= 0 && name < NAMES && take(name);
      }
      if (take(QUESTION)) {
        return true;
      }
      return aPlace() && (take(HASH) || !take(COLON) || peek() != QUESTION && aPlace());
    }

    private boolean aPlace() {
      if (take(QUESTION)) {
        return true;
      }
      int held = 0;
      if (peek() == DOLLAR) {
        held = 2;
        at++;
      }
      int column = peek() - LETTER_A;
      if (column < 0 || column >= COLUMNS) {
        return false;
      }
      at++;
      if (peek() == DOLLAR) {
        held++;
        at++;
      }
      int row = peek();
      if (row < 1 || row > 9) {
        return false;
      }
      at++;
      int digit = peek();
      if (isDigit(digit) && row * 10 + digit <= ROWS) {
        row = row * 10 + digit;
        at++;
      }
      append(PLACE_TOKENS + held * PLACES + (row - 1) * COLUMNS + column);
      return true;
    }
  }

  /** CELLS, LOCKS, CHECKS and names, as they stand at one time. */
  private static final class Sheet {
    private final Cell[] cells = new Cell[PLACES];
    private final boolean[] locked = new boolean[PLACES];
    // Without a CHECK the greatest is below the least.
    private final int[] least = new int[PLACES];
    private final int[] greatest = new int[PLACES];
    // Of each name the first PLACE and the last one, or NONE.
    final int[] names = new int[2 * NAMES];

    Sheet() {
      for (int place = 0; place < PLACES; place++) {
        greatest[place] = NONE;
      }
      for (int i = 0; i < 2 * NAMES; i++) {
        names[i] = NONE;
      }
    }

    void empty() {
      for (int place = 0; place < PLACES; place++) {
        cells[place] = null;
        locked[place] = false;
        least[place] = 0;
        greatest[place] = NONE;
      }
      for (int i = 0; i < 2 * NAMES; i++) {
        names[i] = NONE;
      }
    }

    void take(Sheet other) {
      for (int place = 0; place < PLACES; place++) {
        takePlace(place, other, place);
      }
      for (int i = 0; i < 2 * NAMES; i++) {
        names[i] = other.names[i];
      }
    }

    void takePlace(int place, Sheet other, int from) {
      if (place >= 0 && place < PLACES && from >= 0 && from < PLACES) {
        cells[place] = other.cells[from];
        locked[place] = other.locked[from];
        least[place] = other.least[from];
        greatest[place] = other.greatest[from];
      }
    }

    /** null of an EMPTY PLACE. */
    Cell cellAt(int place) {
      return place >= 0 && place < PLACES ? cells[place] : null;
    }

    void setCell(int place, Cell cell) {
      if (place >= 0 && place < PLACES) {
        cells[place] = cell;
      }
    }

    /** 0 of an EMPTY PLACE. */
    int kindAt(int place) {
      Cell cell = cellAt(place);
      return cell == null ? 0 : cell.kind;
    }

    int countCells() {
      int many = 0;
      for (int place = 0; place < PLACES; place++) {
        many += cells[place] == null ? 0 : 1;
      }
      return many;
    }

    int nextBelow(int place) {
      for (int below = place + COLUMNS; below < PLACES; below += COLUMNS) {
        if (cellAt(below) != null) {
          return below;
        }
      }
      return NONE;
    }

    boolean isLockedAt(int place) {
      return place >= 0 && place < PLACES && locked[place];
    }

    void setLock(int place, boolean is) {
      if (place >= 0 && place < PLACES) {
        locked[place] = is;
      }
    }

    boolean isCheckedAt(int place) {
      return leastAt(place) <= greatestAt(place);
    }

    int leastAt(int place) {
      return numberAt(least, place, 0);
    }

    int greatestAt(int place) {
      return numberAt(greatest, place, NONE);
    }

    void setCheck(int place, int lowest, int highest) {
      if (place >= 0 && place < PLACES) {
        least[place] = lowest;
        greatest[place] = highest;
      }
    }

    int cornerOf(int name, boolean isLast) {
      return numberAt(names, 2 * name + (isLast ? 1 : 0), NONE);
    }

    /** With NONE as a corner the name is told no more. */
    void setName(int name, int one, int other) {
      if (name >= 0 && name < NAMES) {
        boolean isTold = one != NONE;
        int box = isTold ? boxOf(one, other) : 0;
        names[2 * name] = isTold ? box / PLACES : NONE;
        names[2 * name + 1] = isTold ? box % PLACES : NONE;
      }
    }

    void takeName(int name, Sheet other) {
      setName(name, other.cornerOf(name, false), other.cornerOf(name, true));
    }

    boolean hasSameName(int name, Sheet other) {
      return cornerOf(name, false) == other.cornerOf(name, false)
          && cornerOf(name, true) == other.cornerOf(name, true);
    }

    /** Whether nothing stands in the last row or column, and no PLACE, corner or name is there. */
    boolean isLastLineFree(boolean isColumn) {
      int last = isColumn ? COLUMNS - 1 : ROWS - 1;
      for (int place = 0; place < PLACES; place++) {
        Cell cell = cellAt(place);
        boolean stands = cell != null || isLockedAt(place) || isCheckedAt(place);
        if (stands && lineOf(isColumn, place) == last) {
          return false;
        }
        if (cell != null && cell.hasPlaceIn(isColumn, last)) {
          return false;
        }
      }
      for (int name = 0; name < NAMES; name++) {
        int corner = cornerOf(name, true);
        if (corner != NONE && lineOf(isColumn, corner) == last) {
          return false;
        }
      }
      return true;
    }
  }

  /** The sheet as it is, and as it was ahead of each GROUP or will be when that is DONE AGAIN. */
  private static final class History {
    private final Sheet[] sheets = new Sheet[MOST_GROUPS + 1];
    private int at;
    private int past;
    private int future;
    private boolean isOpen;
    // Whether the open GROUP has an EDIT.
    private boolean isBegun;

    History() {
      for (int i = 0; i <= MOST_GROUPS; i++) {
        sheets[i] = new Sheet();
      }
    }

    Sheet sheet() {
      return sheets[Math.floorMod(at, MOST_GROUPS + 1)];
    }

    int past() {
      return past;
    }

    int future() {
      return future;
    }

    /** Answers the sheet that an EDIT may change. */
    Sheet begin() {
      if (!isBegun) {
        Sheet older = sheet();
        at = Math.floorMod(at + 1, MOST_GROUPS + 1);
        sheet().take(older);
        past = Math.min(past + 1, MOST_GROUPS);
        isBegun = isOpen;
      }
      future = 0;
      return sheet();
    }

    int openGroup() {
      isOpen = true;
      isBegun = false;
      return past;
    }

    int closeGroup() {
      boolean wasOpen = isOpen;
      isOpen = false;
      isBegun = false;
      return wasOpen ? past : NONE;
    }

    void stepBack() {
      closeGroup();
      at = Math.floorMod(at - 1, MOST_GROUPS + 1);
      past--;
      future++;
    }

    void stepForth() {
      closeGroup();
      at = Math.floorMod(at + 1, MOST_GROUPS + 1);
      past++;
      future--;
    }
  }

  /** Reckons one formula at a time, from its tokens. */
  private static final class Evaluator {
    private static final int SLOTS = 64;

    private final Arithmetic arithmetic = new Arithmetic();
    private final Value[] slots = new Value[SLOTS];
    private final Value[] listed = new Value[PLACES];
    private final StringBuilder joined = new StringBuilder();
    private final Value nothing = new Value();
    private Value[] shown = new Value[0];
    private int[] spans = new int[0];
    private int[] names = new int[0];
    private int[] tokens = new int[0];
    private int at;

    Evaluator() {
      for (int i = 0; i < SLOTS; i++) {
        slots[i] = new Value();
      }
      for (int i = 0; i < PLACES; i++) {
        listed[i] = new Value();
      }
    }

    void start(Value[] shown, int[] spans, int[] names, int[] tokens) {
      this.shown = shown;
      this.spans = spans;
      this.names = names;
      this.tokens = tokens;
      // The "=" is not wanted.
      at = 1;
    }

    /** An index beyond the slots cannot come, as few "(" may be open. */
    private Value slot(int number) {
      return slots[Math.max(0, Math.min(number, SLOTS - 1))];
    }

    Value listedAt(int number) {
      return number >= 0 && number < PLACES ? listed[number] : nothing;
    }

    private Value shownAt(int place) {
      return place >= 0 && place < shown.length ? shown[place] : nothing;
    }

    int order(Value one, Value other) {
      return arithmetic.order(one, other);
    }

    void add(Value one, Value other) {
      reckon(PLUS, one, other);
    }

    void subtract(Value one, Value other) {
      reckon(MINUS, one, other);
    }

    private void reckon(int sign, Value one, Value other) {
      if (areNumbers(one, other)) {
        arithmetic.combine(sign, one, other);
      }
    }

    private int peek() {
      return tokenAt(tokens, at);
    }

    private int next() {
      int token = tokenAt(tokens, at);
      at++;
      return token;
    }

    /** What has come of the formula, EMPTY still counting for itself. */
    Value result() {
      return slot(0);
    }

    /** Sets a slot to what comes; uses those above. The depth is how many "(" are open. */
    private void expression(int slot, int depth) {
      total(slot, depth);
      int sign = peek();
      if (sign != EQUALS && sign != LESS) {
        return;
      }
      at++;
      total(slot + 1, depth);
      Value one = slot(slot);
      Value other = slot(slot + 1);
      if (one.kind == FAULT) {
        return;
      }
      if (other.kind == FAULT) {
        one.take(other);
      } else if (sign == EQUALS) {
        one.setTruth(one.isAlike(other));
      } else {
        setLess(one, other);
      }
    }

    private void setLess(Value one, Value other) {
      one.countEmptyAsZero();
      other.countEmptyAsZero();
      if (one.kind != other.kind) {
        one.setFault(KIND);
      } else {
        one.setTruth(arithmetic.order(one, other) < 0);
      }
    }

    private void total(int slot, int depth) {
      product(slot, depth);
      for (int turn = 0; turn < MOST_TOKENS; turn++) {
        int sign = peek();
        if (sign != PLUS && sign != MINUS && sign != AMPERSAND) {
          return;
        }
        at++;
        product(slot + 1, depth);
        if (sign == AMPERSAND) {
          joinTexts(slot(slot), slot(slot + 1));
        } else if (areNumbers(slot(slot), slot(slot + 1))) {
          arithmetic.combine(sign, slot(slot), slot(slot + 1));
        }
      }
    }

    private void product(int slot, int depth) {
      factor(slot, depth);
      for (int turn = 0; turn < MOST_TOKENS; turn++) {
        int sign = peek();
        if (sign != STAR && sign != SLASH) {
          return;
        }
        at++;
        factor(slot + 1, depth);
        if (areNumbers(slot(slot), slot(slot + 1))) {
          arithmetic.combine(sign, slot(slot), slot(slot + 1));
        }
      }
    }

    /** If they are not, the first one is set to the FAULT that comes. */
    private static boolean areNumbers(Value one, Value other) {
      if (one.kind == FAULT) {
        return false;
      }
      if (other.kind == FAULT) {
        one.take(other);
        return false;
      }
      one.countEmptyAsZero();
      other.countEmptyAsZero();
      if (one.kind != NUMBER || other.kind != NUMBER) {
        one.setFault(KIND);
        return false;
      }
      return true;
    }

    private void joinTexts(Value one, Value other) {
      if (one.kind == FAULT) {
        return;
      }
      if (other.kind == FAULT) {
        one.take(other);
        return;
      }
      joined.setLength(0);
      one.appendShown(joined);
      other.appendShown(joined);
      if (joined.length() > MOST_IN_TEXT) {
        one.setFault(LONG);
      } else {
        one.setText(joined);
      }
    }

    private void factor(int slot, int depth) {
      boolean isNegated = false;
      boolean isNegative = false;
      for (int turn = 0; turn < MOST_TOKENS && peek() == MINUS; turn++) {
        isNegated = true;
        isNegative = !isNegative;
        at++;
      }
      int sign = peek();
      if (sign == OPENING || sign >= SUM && sign <= IS_FAULT) {
        call(slot, depth);
      } else {
        setSimple(slot(slot));
      }
      Value value = slot(slot);
      if (isNegated && value.kind != FAULT) {
        value.countEmptyAsZero();
        if (value.kind != NUMBER) {
          value.setFault(KIND);
        } else if (isNegative) {
          value.size = -value.size;
        }
      }
    }

    private void setSimple(Value value) {
      int token = next();
      if (isPlaceToken(token)) {
        value.take(shownAt(placeOfToken(token)));
      } else if (token == QUESTION) {
        value.setFault(GONE);
      } else if (token == TRUE_SIGN || token == FALSE_SIGN) {
        value.setTruth(token == TRUE_SIGN);
      } else if (token == QUOTE) {
        setLiteral(value);
      } else {
        setWholeNumber(value, token);
      }
    }

    private void setLiteral(Value value) {
      joined.setLength(0);
      for (int i = 0; i < MOST_IN_LITERAL && peek() >= LITERAL_TOKENS; i++) {
        joined.append(signShown(next() - LITERAL_TOKENS));
      }
      at++;
      value.setText(joined);
    }

    private void setWholeNumber(Value value, int first) {
      int number = first;
      for (int i = 0; i < 3 && peek() >= 0 && peek() <= 9; i++) {
        number = number * 10 + next();
      }
      value.setWhole(number);
    }

    /** A bracket, or a function with its own. */
    private void call(int slot, int depth) {
      if (depth > MOST_OPEN) {
        slot(slot).setFault(LONG);
        return;
      }
      int sign = next();
      at += sign == OPENING ? 0 : 1;
      if (sign == SUM || sign == LEAST || sign == GREATEST) {
        setOfRange(slot(slot), sign, range());
      } else if (sign == COUNT) {
        int box = range();
        at++;
        expression(slot, depth + 1);
        setCount(slot(slot), box);
      } else if (sign == CHOICE) {
        choose(slot, depth);
      } else {
        expression(slot, depth + 1);
        if (sign == LOOK_UP) {
          at++;
          int box = range();
          at++;
          lookUp(slot(slot), box, range());
        } else if (sign == IS_FAULT) {
          slot(slot).setTruth(slot(slot).kind == FAULT);
        }
      }
      at++;
    }

    private void choose(int slot, int depth) {
      expression(slot, depth + 1);
      at++;
      expression(slot + 1, depth + 1);
      at++;
      expression(slot + 2, depth + 1);
      Value value = slot(slot);
      if (value.kind == TRUTH) {
        value.take(slot(value.size == 1 ? slot + 1 : slot + 2));
        value.countEmptyAsZero();
      } else if (value.kind != FAULT) {
        value.setFault(KIND);
      }
    }

    /** A range's box; if it has a FAULT, this taken off -1. */
    private int range() {
      int token = next();
      if (token == QUESTION) {
        return -1 - GONE;
      }
      if (token == LETTER_N) {
        int name = next();
        int first = numberAt(names, 2 * name, NONE);
        return first == NONE ? -1 - UNNAMED : boxOf(first, numberAt(names, 2 * name + 1, first));
      }
      int place = placeOfToken(token);
      int sign = peek();
      if (sign == COLON) {
        at++;
        return boxOf(place, placeOfToken(next()));
      }
      if (sign == HASH) {
        at++;
        int more = Math.max(1, numberAt(spans, place, 0)) - 1;
        return boxOf(place, Math.min(place + more * COLUMNS, PLACES - 1));
      }
      return boxOf(place, place);
    }

    private void setOfRange(Value value, int sign, int box) {
      if (box < 0) {
        value.setFault(-1 - box);
        return;
      }
      value.setEmpty();
      arithmetic.left.setZero();
      int size = sizeOfBox(box);
      for (int i = 0; i < size && i < PLACES; i++) {
        Value next = shownAt(placeInBox(box, i));
        if (next.kind == FAULT) {
          value.take(next);
          return;
        }
        if (next.kind != NUMBER) {
          continue;
        }
        if (sign == SUM) {
          arithmetic.right.take(next);
          arithmetic.addRight();
          continue;
        }
        int order = arithmetic.order(next, value);
        if (value.kind == EMPTY || (sign == LEAST ? order < 0 : order > 0)) {
          value.take(next);
        }
      }
      if (sign == SUM) {
        arithmetic.left.giveTo(value);
      } else if (value.kind == EMPTY) {
        value.setFault(NOT_THERE);
      }
    }

    private void setCount(Value value, int box) {
      if (box < 0) {
        value.setFault(-1 - box);
        return;
      }
      if (value.kind == FAULT) {
        return;
      }
      value.countEmptyAsZero();
      int many = 0;
      int size = sizeOfBox(box);
      for (int i = 0; i < size && i < PLACES; i++) {
        many += shownAt(placeInBox(box, i)).isAlike(value) ? 1 : 0;
      }
      value.setWhole(many);
    }

    private void lookUp(Value value, int box, int other) {
      if (value.kind == FAULT) {
        return;
      }
      if (box < 0 || other < 0) {
        value.setFault(-1 - (box < 0 ? box : other));
        return;
      }
      value.countEmptyAsZero();
      int size = sizeOfBox(box);
      for (int i = 0; i < size && i < PLACES; i++) {
        if (shownAt(placeInBox(box, i)).isAlike(value)) {
          if (i < sizeOfBox(other)) {
            value.take(shownAt(placeInBox(other, i)));
            value.countEmptyAsZero();
          } else {
            value.setFault(NOT_THERE);
          }
          return;
        }
      }
      value.setFault(NOT_THERE);
    }

    /** Reckons a LIST; answers how many VALUES it has, 0 if it came to a VALUE (the first then). */
    int reckonList() {
      int sign = next();
      at++;
      int box = range();
      int partner = box;
      if (sign == FILTERED) {
        at++;
        partner = range();
      }
      if (box < 0 || partner < 0) {
        listedAt(0).setFault(-1 - (box < 0 ? box : partner));
        return 0;
      }
      int many = 0;
      int size = sizeOfBox(box);
      for (int i = 0; i < size && i < PLACES; i++) {
        Value value = shownAt(placeInBox(box, i));
        if (isWanted(sign, value, many, partner, i)) {
          insert(value, sign == ORDERED ? placeInOrder(value, many) : many, many);
          many++;
        }
      }
      if (many == 0) {
        listedAt(0).setFault(NOT_THERE);
      }
      return many;
    }

    private boolean isWanted(int sign, Value value, int many, int partner, int number) {
      if (sign == FILTERED) {
        Value other = number < sizeOfBox(partner) ? shownAt(placeInBox(partner, number)) : nothing;
        return other.kind == TRUTH && other.size == 1;
      }
      for (int i = 0; i < many && sign == UNIQUE; i++) {
        if (listedAt(i).isAlike(value)) {
          return false;
        }
      }
      return value.kind != EMPTY;
    }

    /** Behind all that are not greater, so that like ones stay as they come. */
    private int placeInOrder(Value value, int many) {
      int low = 0;
      int high = many;
      for (int turn = 0; turn < PLACES && low < high; turn++) {
        int middle = low + (high - low) / 2;
        if (arithmetic.order(listedAt(middle), value) <= 0) {
          low = middle + 1;
        } else {
          high = middle;
        }
      }
      return low;
    }

    private void insert(Value value, int number, int many) {
      if (number < 0 || many < number || many >= PLACES) {
        return;
      }
      Value free = listed[many];
      for (int i = many; i > number; i--) {
        listed[i] = listed[i - 1];
      }
      listed[number] = free;
      free.take(value);
      free.countEmptyAsZero();
    }
  }

  /** What the CELLS of a sheet need and show. CELLS are numbered by rising PLACES. */
  private static final class Weave {
    private final Evaluator evaluator;
    private final Value[] shown = new Value[PLACES];
    private final Value nothing = new Value();
    // The CELL whose VALUE is shown there, or NONE.
    private final int[] origins = new int[PLACES];
    // How many VALUES a LIST shows.
    private final int[] spans = new int[PLACES];
    private final int[] numbers = new int[PLACES];
    // The number of the CELL on which a PLACE stands, or NONE.
    private final int[] grounds = new int[PLACES];
    private final boolean[] read = new boolean[PLACES];
    private final int[] places = new int[MOST_NUMBERED];
    private final int[] levels = new int[MOST_NUMBERED];
    private final long[] needed = new long[MOST_NUMBERED];
    private final long[] leanedOn = new long[MOST_NUMBERED];
    private int count;

    Weave(Evaluator evaluator) {
      this.evaluator = evaluator;
      for (int place = 0; place < PLACES; place++) {
        shown[place] = new Value();
        origins[place] = NONE;
        numbers[place] = NONE;
      }
    }

    Value shownAt(int place) {
      return place >= 0 && place < PLACES ? shown[place] : nothing;
    }

    int originAt(int place) {
      return numberAt(origins, place, NONE);
    }

    int spanAt(int place) {
      return numberAt(spans, place, 0);
    }

    boolean isCircleAt(int place) {
      Value value = shownAt(place);
      return value.kind == FAULT && value.size == CIRCLE;
    }

    int placeOfCell(int number) {
      return number < count ? numberAt(places, number, NONE) : NONE;
    }

    int levelAt(int place) {
      return numberAt(levels, numberAt(numbers, place, NONE), 0);
    }

    private static long bitOf(int number) {
      return number >= 0 && number < MOST_NUMBERED ? 1L << number : 0L;
    }

    private static long bitsAt(long[] bits, int number) {
      return number >= 0 && number < bits.length ? bits[number] : 0L;
    }

    boolean isOf(long cells, int place) {
      return (cells & bitOf(numberAt(numbers, place, NONE))) != 0L;
    }

    long needsAt(int place) {
      return bitsAt(needed, numberAt(numbers, place, NONE));
    }

    long leansAt(int place) {
      return bitsAt(leanedOn, numberAt(numbers, place, NONE));
    }

    long needingAt(int place) {
      return cellsWith(needed, bitOf(numberAt(numbers, place, NONE)));
    }

    long leaningAt(int place) {
      return cellsWith(leanedOn, bitOf(numberAt(numbers, place, NONE)));
    }

    private long cellsWith(long[] bits, long bit) {
      long cells = 0L;
      for (int i = 0; i < count && i < bits.length; i++) {
        cells |= (bits[i] & bit) != 0L ? bitOf(i) : 0L;
      }
      return cells;
    }

    boolean isOnRingAt(int place) {
      return isOf(leansAt(place), place);
    }

    private long cellsOnRings() {
      long cells = 0L;
      for (int i = 0; i < count && i < MOST_NUMBERED; i++) {
        cells |= leanedOn[i] & bitOf(i);
      }
      return cells;
    }

    int countOnRings() {
      return Long.bitCount(cellsOnRings());
    }

    int greatestLevel() {
      int greatest = NONE;
      for (int i = 0; i < count && i < MOST_NUMBERED; i++) {
        greatest = Math.max(greatest, levels[i]);
      }
      return greatest;
    }

    /** Reckons a sheet anew; each CELL when all that it NEEDS are reckoned. */
    void reckon(Sheet sheet) {
      numberCells(sheet);
      findNeeds(sheet);
      long done = 0L;
      boolean goesOn = true;
      for (int round = 0; round <= MOST_NUMBERED && goesOn; round++) {
        goesOn = false;
        for (int i = 0; i < count && i < MOST_NUMBERED; i++) {
          if ((done & bitOf(i)) != 0L || (needed[i] & ~done) != 0L) {
            continue;
          }
          int place = places[i];
          Cell cell = sheet.cellAt(place);
          if (cell != null && cell.constant != null) {
            shownAt(place).take(cell.constant);
          } else if (cell != null) {
            evaluator.start(shown, spans, sheet.names, cell.tokens);
            if (cell.kind == LIST) {
              spill(sheet, place, evaluator.reckonList());
            } else {
              evaluator.expression(0, 0);
              shownAt(place).take(evaluator.result());
              shownAt(place).countEmptyAsZero();
            }
          }
          levels[i] = levelAbove(needed[i]);
          done |= bitOf(i);
          goesOn = true;
        }
      }
      // What is left lies on a RING, or LEANS ON such.
      for (int i = 0; i < count && i < MOST_NUMBERED; i++) {
        if ((done & bitOf(i)) == 0L) {
          shownAt(places[i]).setFault(CIRCLE);
          levels[i] = NONE;
        }
      }
    }

    private void numberCells(Sheet sheet) {
      count = 0;
      for (int place = 0; place < PLACES; place++) {
        boolean isCell = sheet.cellAt(place) != null && count < MOST_NUMBERED;
        shown[place].setEmpty();
        spans[place] = 0;
        origins[place] = isCell ? place : NONE;
        numbers[place] = isCell ? count : NONE;
        grounds[place] = NONE;
        if (isCell) {
          grounds[place] = count;
          places[count] = place;
          count++;
        } else if (place >= COLUMNS) {
          int above = grounds[place - COLUMNS];
          boolean isList = above != NONE && sheet.kindAt(placeOfCell(above)) == LIST;
          grounds[place] = isList ? above : NONE;
        }
      }
    }

    private void findNeeds(Sheet sheet) {
      for (int i = 0; i < count && i < MOST_NUMBERED; i++) {
        needed[i] = 0L;
        Cell cell = sheet.cellAt(places[i]);
        if (cell != null && cell.kind != CONSTANT) {
          cell.markReads(sheet.names, read);
          for (int place = 0; place < PLACES; place++) {
            needed[i] |= read[place] ? bitOf(grounds[place]) : 0L;
          }
        }
      }
    }

    private int levelAbove(long cells) {
      int level = 0;
      for (int i = 0; i < count && i < MOST_NUMBERED; i++) {
        if ((cells & bitOf(i)) != 0L) {
          level = Math.max(level, levels[i] + 1);
        }
      }
      return level;
    }

    /** Shows what the evaluator listed, or the one VALUE that the LIST came to. */
    private void spill(Sheet sheet, int place, int many) {
      for (int i = 1; i < many; i++) {
        int below = place + i * COLUMNS;
        if (below >= PLACES || sheet.cellAt(below) != null) {
          shownAt(place).setFault(BAR);
          return;
        }
      }
      shownAt(place).take(evaluator.listedAt(0));
      for (int i = 1; i < many && place + i * COLUMNS < PLACES; i++) {
        shownAt(place + i * COLUMNS).take(evaluator.listedAt(i));
        origins[place + i * COLUMNS] = place;
      }
      if (place >= 0 && place < PLACES) {
        spans[place] = many;
      }
    }

    /** Finds what each CELL LEANS ON, from what it NEEDS. */
    void followNeeds() {
      System.arraycopy(needed, 0, leanedOn, 0, MOST_NUMBERED);
      for (int by = 0; by < count && by < MOST_NUMBERED; by++) {
        for (int i = 0; i < count && i < MOST_NUMBERED; i++) {
          if ((leanedOn[i] & bitOf(by)) != 0L) {
            leanedOn[i] |= leanedOn[by];
          }
        }
      }
    }

    /** Whether "#circle" is shown just where it is due, and LEVELS rise. */
    boolean isInOrder() {
      long onRings = cellsOnRings();
      for (int i = 0; i < count && i < MOST_NUMBERED; i++) {
        boolean isDue = ((leanedOn[i] | bitOf(i)) & onRings) != 0L;
        if (isDue != isCircleAt(places[i])) {
          return false;
        }
        if (!isDue && levels[i] < levelAbove(needed[i])) {
          return false;
        }
      }
      return true;
    }
  }
}
