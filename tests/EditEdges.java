import java.math.BigInteger;

/** Edges of section 4 and of promises 7 to 21: edits that are LET, REFUSED or wrong. */
public final class EditEdges extends Bench {
  /** Each edit once, so that all is as it was on the sheet of same(). */
  private static final String[] NAMES_OF_EDITS = {"put", "clear", "copy", "fill", "goOn", "putIn", "takeOut", "move", "sort", "name", "lock",
      "check", "goal", "back", "join"};

  public static void main(String[] args) {
    asItWas();
    noEdits();
    refusedInGroups();
    minusNine();
    locked();
    lockedLets();
    sixty();
    sixtyReached();
    clears();
    copies();
    copiesBeyond();
    held();
    fills();
    goOns();
    goOnsBeyond();
    goOnsLong();
    goOnsDifference();
    exceptionsFirst();
    sorts();
    sortKinds();
    names();
    locks();
    checks();
    checkKinds();
    goals();
    end();
  }

  private static Cellweave same() {
    Cellweave x = sheet("a1:1 a2:2 a3:3 b1:=a1 h9:7");
    x.name(0, 0, 0);
    x.lock(LAST, true);
    x.check(9, 1, 2);
    x.keep(0);
    return x;
  }

  private static Object edit(Cellweave x, int which) {
    switch (which) {
      case 0:
        return set(x, "a1", "1");
      case 1:
        return x.clear(99);
      case 2:
        return x.copy(1, 1);
      case 3:
        return x.fill(1, 1, 1);
      case 4:
        return x.goOn(0, 1);
      case 5:
        return x.putIn(true, 7);
      case 6:
        return x.takeOut(false, 10);
      case 7:
        return x.move(false, 3, 3);
      case 8:
        return x.sort(4, 5, 0);
      case 9:
        return x.name(0, 0, 0);
      case 10:
        return x.lock(LAST, true);
      case 11:
        return x.check(9, 1, 2);
      case 12:
        return x.goal(0, 0, 1, 1, 1);
      case 13:
        return x.back(0);
      default:
        return x.join(0, 0);
    }
  }

  private static void asItWas() {
    edge("EDITS are the calls of the section «edits», also if all is as it was");
    for (int i = 0; i < NAMES_OF_EDITS.length; i++) {
      Cellweave x = same();
      if (i == 5) {
        x.lock(LAST, false);
        x.clear(at("h9"));
      }
      int groups = x.house(8);
      String all = x.all();
      edit(x, i);
      due(NAMES_OF_EDITS[i] + "(): what can be UNDONE", x.house(8), groups + 1);
      due(NAMES_OF_EDITS[i] + "(): all()", x.all(), all);
      x.undo();
      edge("What was UNDONE can be DONE AGAIN, till another EDIT is made");
      due(NAMES_OF_EDITS[i] + "(): what can be DONE AGAIN", x.house(9), 1);
      edit(x, i);
      due(NAMES_OF_EDITS[i] + "(): what can be DONE AGAIN then", x.house(9), 0);
      notNow(x, "redo()", () -> x.redo());
    }
  }

  private static void noEdits() {
    edge("but those that tell that nothing was done: -9 (\"-9\"), a FAULT OF THE INPUT, -9999, -10000");
    Cellweave x = full();
    x.lock(0, true);
    x.keep(0);
    x.keep(1);
    type(x, "=h20");
    x.clear(1);
    x.undo();
    x.undo();
    due("what can be DONE AGAIN", x.house(9), 2);
    x.lock(0, true);
    x.undo();
    type(x, "=1+");
    due("what can be DONE AGAIN", x.house(9), 1);
    idle(x, "put() of a FAULT", 3, () -> x.put(0));
    type(x, "=1");
    idle(x, "put()", -9, () -> x.put(LAST));
    idle(x, "copy()", -9, () -> x.copy(0, LAST));
    idle(x, "fill()", -9, () -> x.fill(0, at("h20"), at("h20")));
    idle(x, "goOn()", "-9", () -> x.goOn(0, 7));
    idle(x, "goOn() of no NUMBERS", "-9", () -> x.goOn(100, 1));
    idle(x, "goal()", -9999, () -> x.goal(LAST, LAST, 1, 5, 3));
    idle(x, "goal() without one", -10000, () -> x.goal(0, 1, 1, 5, 3));
    due("redo()", x.redo(), 0);
    due("it was the LOCK", x.ofPlace(0, 7), 1);
    x.undo();
    idle(x, "putIn()", -9, () -> x.putIn(true, 0));
    x.redo();
    x.clear(5);
    x.undo();
    idle(x, "clear()", -9, () -> x.clear(0));
    idle(x, "takeOut()", -9, () -> x.takeOut(false, 0));
    idle(x, "sort()", -9, () -> x.sort(0, 5, 0));
    due("redo()", x.redo(), 0);
    due("it was the clear()", x.value(5), "");
  }

  private static void refusedInGroups() {
    edge("(a GROUP) counts as soon as it has an EDIT; without one it is none");
    Cellweave x = sheet("a1:1");
    x.lock(5, true);
    x.open();
    x.clear(5);
    type(x, "=)");
    x.put(0);
    x.goal(5, 5, 0, 0, 0);
    x.goal(0, 1, 0, 0, 1);
    x.goOn(0, 1);
    x.keep(0);
    due("what can be UNDONE", x.house(8), 2);
    due("close()", x.close(), 2);
    x.undo();
    due("a LOCK is UNDONE", x.ofPlace(5, 7), 0);
    x.open();
    due("an open GROUP without an EDIT leaves what can be DONE AGAIN", x.house(9), 1);
    x.lock(6, true);
    due("one with an EDIT does not", x.house(9), 0);
  }

  private static void minusNine() {
    edge("(the number -9 that goal() puts, or the last one of goOn() shows, does not tell that)");
    Cellweave x = sheet("a1:1 a2:-4");
    int groups = x.house(8);
    due("goOn()", x.goOn(0, 1), "-9");
    due("what can be UNDONE", x.house(8), groups + 1);
    due("value()", x.value(16), "-9");
    due("goal()", x.goal(1, 1, -9, -9, -9), -9);
    due("what can be UNDONE", x.house(8), groups + 2);
    due("value()", x.value(1), "-9");
    x.undo();
    x.undo();
    due("both are UNDONE", x.value(1) + x.value(16), "");
    due("goOn() of -9 on the way", x.goOn(0, 2), "-14");
  }

  private static void locked() {
    edge("A LOCKED PLACE is not changed by put, clear, copy, fill, goOn, goal, sort: REFUSED, also if it would stay as it is");
    Cellweave x = sheet("a1:1 a2:2 a3:3 b1:=a1 c1:4");
    x.lock(16, true);
    x.lock(1, true);
    x.lock(99, true);
    type(x, "3");
    idle(x, "put() of the same", -9, () -> x.put(16));
    idle(x, "put() at an EMPTY one", -9, () -> x.put(99));
    idle(x, "clear()", -9, () -> x.clear(16));
    idle(x, "clear() of an EMPTY one", -9, () -> x.clear(99));
    idle(x, "copy()", -9, () -> x.copy(0, 16));
    idle(x, "copy() to itself", -9, () -> x.copy(1, 1));
    idle(x, "copy() of an EMPTY one to an EMPTY one", -9, () -> x.copy(98, 99));
    idle(x, "fill()", -9, () -> x.fill(0, 8, 17));
    idle(x, "fill() of an EMPTY one", -9, () -> x.fill(98, 91, 107));
    idle(x, "fill() with one in a corner", -9, () -> x.fill(0, 99, 120));
    idle(x, "goOn() of the same", "-9", () -> x.goOn(0, 1));
    idle(x, "goOn() over it", "-9", () -> x.goOn(0, 2));
    idle(x, "goal()", -9999, () -> x.goal(16, 16, 3, 3, 3));
    idle(x, "goal() at an EMPTY one", -9999, () -> x.goal(99, 99, 3, 3, 3));
    edge("goal: -9999, if it is REFUSED (no number is looked for then, also where none would be found)");
    idle(x, "goal() without one", -9999, () -> x.goal(16, 0, 5, 9, 77));
    edge("sort: REFUSED, if a PLACE in these rows is LOCKED");
    idle(x, "sort() of one row", -9, () -> x.sort(2, 2, 0));
    idle(x, "sort() of rows without CELLS", -9, () -> x.sort(12, 13, 7));
    idle(x, "sort() with it in the last row", -9, () -> x.sort(11, 12, 0));
    due("sort() next to it", x.sort(13, 19, 0), 0);
    due("sort() ahead of it", x.sort(3, 11, 0), 0);
  }

  private static void lockedLets() {
    edge("(that from which something is copied may be LOCKED)");
    Cellweave x = sheet("a1:1 a2:2 b1:=a1");
    x.lock(0, true);
    x.lock(8, true);
    x.lock(1, true);
    due("copy()", x.copy(1, 2), 1);
    due("fill() from it", x.fill(1, 1, 10), 3);
    due("all()", x.all(), "a1:1;b1:=a1;c1:=b1;a2:2;b2:=a2;c2:=b2");
    due("goOn() behind it", x.goOn(0, 1), "3");
    due("whatIf()", x.whatIf(0, 1, 5, 1, 2), "5 6");
    edge("back: (LOCKS and CHECKS stay), a LOCKED PLACE is changed by what is not named there");
    due("back()", x.back(0), 7);
    due("LOCKS", x.house(6), 3);
    set(x, "c1", "5");
    x.undo();
    x.undo();
    x.keep(1);
    x.back(0);
    due("join()", x.join(0, 1), 0);
    due("all()", x.all(), "a1:1;b1:=a1;c1:=b1;a2:2;b2:=a2;c2:=b2;a3:3");
    due("move()", x.move(false, 0, 5), 6 + 1);
    due("LOCKS go with it", "" + x.ofPlace(at("a6"), 7) + x.ofPlace(at("b6"), 7) + x.ofPlace(at("a1"), 7) + x.ofPlace(at("a2"), 7), "1110");
    due("putIn()", x.putIn(false, 0), 7);
    due("check() and lock() of a LOCKED one", "" + x.check(at("a7"), 5, 6) + x.lock(at("a7"), false), "11");
  }

  private static void sixty() {
    edge("An EDIT by which there would be more than 60 CELLS is REFUSED");
    Cellweave x = full();
    type(x, "5");
    idle(x, "put()", -9, () -> x.put(LAST));
    type(x, "=a1");
    idle(x, "put() of a formula", -9, () -> x.put(at("e8")));
    idle(x, "copy()", -9, () -> x.copy(0, LAST));
    idle(x, "fill()", -9, () -> x.fill(0, at("d8"), at("e8")));
    idle(x, "goOn()", "-9", () -> x.goOn(at("e6"), 1));
    idle(x, "goal()", -9999, () -> x.goal(LAST, LAST, 1, 5, 3));
    edge("(with 60 CELLS what makes no more is LET)");
    due("put() onto a CELL", set(x, "a1", "5"), -1);
    due("copy() onto a CELL", x.copy(0, 1), 0);
    due("copy() of an EMPTY one", x.copy(LAST, LAST - 1), 0);
    due("fill() onto CELLS", x.fill(0, 0, at("b8")), 15);
    due("fill() of an EMPTY one", x.fill(LAST, at("g20"), LAST), 1);
    due("goOn() onto CELLS", x.goOn(0, 6), "5");
    due("goal() onto a CELL", x.goal(0, 0, 1, 5, 3), 3);
    due("clear() of an EMPTY one", x.clear(LAST), 0);
    due("CELLS", x.house(0), 60);
    due("clear()", x.clear(0), 0);
    due("put()", set(x, "h20", "5"), -1);
    due("CELLS", x.house(0), 60);
  }

  private static void sixtyReached() {
    edge("at most 60 CELLS");
    Cellweave f = sheet("a1:7");
    f.fill(0, 0, at("h7"));
    due("fill() of 5 more", f.fill(0, at("a8"), at("e8")), -9);
    due("fill() of 4 more", f.fill(0, at("a8"), at("d8")), 4);
    Cellweave g = sheet("a1:7");
    due("fill() of 61 PLACES at once", g.fill(0, 0, at("h8")), -9);
    due("fill() of 59 more at once", g.fill(0, 0, at("c20")), 59);
    due("CELLS", g.house(0), 60);
    Cellweave o = sheet("a1:1 a2:2 c1:7");
    due("fill()", o.fill(at("c1"), at("c1"), at("f10")), 39);
    due("goOn() of 18, 60 then", o.goOn(0, 18), "20");
    due("CELLS", o.house(0), 60);
    o.undo();
    set(o, "h20", "1");
    due("goOn() of 18, 61 then", o.goOn(0, 18), "-9");
    due("goOn() of 17", o.goOn(0, 17), "19");
    Cellweave c = full();
    c.clear(0);
    due("goal()", c.goal(LAST, LAST, 1, 5, 3), 3);
    c.undo();
    due("copy()", c.copy(1, LAST), 0);
    c.undo();
    c.keep(0);
    c.back(1);
    due("join() of 59", c.join(1, 0), 0);
    c.back(1);
    set(c, "h20", "1");
    due("join() of 60", c.join(1, 0), 0);
    c.back(1);
    set(c, "h20", "1");
    set(c, "g20", "1");
    idle(c, "join() of 61", -9, () -> c.join(1, 0));
    due("whatIf() of a 61st", full().whatIf(LAST, LAST, 3, 4, 2), "3 7");
  }

  private static void clears() {
    edge("clear: Returns how many were RECKONED; -9");
    Cellweave x = sheet("a1:1 b1:=a1 c1:=b1 d1:=c9");
    due("clear()", x.clear(0), 2);
    due("clear() of an EMPTY one", x.clear(0), 0);
    due("clear() of a formula", x.clear(1), 1);
    due("clear() of what none READS", x.clear(2), 0);
    due("clear() of an EMPTY one at the end", x.clear(LAST), 0);
    x.lock(2, true);
    idle(x, "clear() of a LOCKED one", -9, () -> x.clear(2));
    due("clear() of an EMPTY PLACE to which a LIST spills", sheet("a1:1 a2:2 b1:=O(a1:a2)").clear(9), 0);
    edge("clear: if place is not 0 to 159");
    for (int p : new int[] {-1, 160, Integer.MIN_VALUE, Integer.MAX_VALUE}) {
      bad(x, "clear(" + p + ")", () -> x.clear(p));
    }
  }

  private static void copies() {
    edge("To COPY a CELL to a PLACE: its constant; or its formula; an EMPTY one empties it");
    Cellweave x = sheet("a1:1/2 b1:=a1 c1:abc d1:5");
    due("a constant", x.copy(0, 9) + x.text(9), "01/2");
    due("a text", x.copy(2, 10) + x.text(10), "0abc");
    due("a formula", x.copy(1, LAST) + x.text(LAST), "1=g20");
    due("an EMPTY one", x.copy(99, LAST) + x.text(LAST), "0");
    due("an EMPTY one to an EMPTY one", x.copy(99, 98), 0);
    due("itself", x.copy(1, 1) + x.text(1), "1=a1");
    due("the last one to the first one", x.copy(LAST, 0) + x.text(0), "1");
    Cellweave l = sheet("a1:1 a2:2 b1:=O(a1:a2)");
    due("where a LIST spills to there is no CELL", l.copy(9, 2) + l.all(), "0a1:1;b1:=O(a1:a2);a2:2");
    due("a LIST", l.copy(1, 2) + l.text(2) + l.value(2), "1=O(b1:b2)1");
    edge("copy: if from or to is not 0 to 159");
    for (int p : new int[] {-1, 160, Integer.MIN_VALUE, Integer.MAX_VALUE}) {
      bad(x, "copy(" + p + ", 0)", () -> x.copy(p, 0));
      bad(x, "copy(0, " + p + ")", () -> x.copy(0, p));
    }
  }

  private static void copiesBeyond() {
    edge("what comes beyond the sheet is GONE");
    String[][] all = {
        {"b2", "=a1", "a1", "=?"}, {"b2", "=a1", "a2", "=?"}, {"b2", "=a1", "b1", "=?"}, {"b2", "=a1", "b3", "=a2"}, {"b2", "=b2", "a1", "=a1"},
        {"b2", "=b1", "a2", "=a1"}, {"b2", "=a2", "b1", "=a1"}, {"g19", "=h20", "h20", "=?"}, {"g19", "=h20", "h19", "=?"},
        {"g19", "=h20", "g20", "=?"}, {"g19", "=h20", "f18", "=g19"}, {"g19", "=g19", "h20", "=h20"}, {"g19", "=h19", "g20", "=h20"},
        {"a1", "=h1", "b1", "=?"}, {"a1", "=h1", "a20", "=h20"}, {"a2", "=a20", "a1", "=a19"}, {"a2", "=a20", "a3", "=?"},
        {"a1", "=h20", "h20", "=?"}, {"h20", "=a1", "a1", "=?"}, {"h20", "=h20", "a1", "=a1"}, {"a1", "=a1", "h20", "=h20"},
        {"b2", "=S(a1:h20)", "b3", "=S(?)"}, {"b2", "=S(a1:h20)", "b1", "=S(?)"}, {"b2", "=S(a1:h20)", "c2", "=S(?)"},
        {"b2", "=S(a1:h20)", "a2", "=S(?)"}, {"b2", "=S(h20:a1)", "b3", "=S(?)"}, {"b2", "=S(a1:h20)", "b2", "=S(a1:h20)"},
        {"b2", "=O(a1#)", "b1", "=O(?)"}, {"b2", "=S(a1#)", "b3", "=S(a2#)"}, {"b2", "=U(a20#)", "b3", "=U(?)"}, {"b2", "=S(n5)", "h20", "=S(n5)"},
        {"b2", "=F(a2,c2)", "h2", "=F(g2,?)"}, {"b2", "='a1'", "a1", "='a1'"}, {"b2", "=K(a1,b2,c3)", "a1", "=K(?,a1,b2)"},
    };
    for (String[] one : all) {
      Cellweave x = sheet(one[0] + ":" + one[1]);
      x.copy(at(one[0]), at(one[2]));
      due(one[1] + " from " + one[0] + " to " + one[2], x.text(at(one[2])), one[3]);
    }
    Cellweave x = sheet("b2:=a1");
    x.copy(9, 1);
    due("\"#gone\", if it is GONE", x.value(1) + x.ofPlace(1, 0), "#gone4");
    x.copy(1, 9);
    due("what is GONE does not come back", x.text(9), "=?");
  }

  private static void held() {
    edge("in which rows and columns that are not HELD are moved by as many as the PLACE is away (\"$\" ahead of a letter or row HOLDS it)");
    String[][] all = {{"=a1", "=c3"}, {"=$a1", "=$a3"}, {"=a$1", "=c$1"}, {"=$a$1", "=$a$1"}, {"=S($a1:b$2)", "=S($a3:d$2)"}, {"=S($a$1#)", "=S($a$1#)"},
        {"=S(a$1#)", "=S(c$1#)"}};
    for (String[] one : all) {
      Cellweave x = sheet("d4:" + one[0]);
      x.copy(at("d4"), at("f6"));
      due(one[0], x.text(at("f6")), one[1]);
    }
    String[][] beyond = {{"=a1", "=?"}, {"=$a1", "=?"}, {"=a$1", "=?"}, {"=$a$1", "=$a$1"}, {"=$b1", "=?"}, {"=a$2", "=?"}, {"=$a2", "=$a1"}, {"=b$1", "=a$1"},
        {"=S($a$1:b2)", "=S($a$1:a1)"}, {"=S($a$1:a2)", "=S(?)"}, {"=S(a$1#)", "=S(?)"}};
    for (String[] one : beyond) {
      Cellweave x = sheet("d4:" + one[0]);
      x.copy(at("d4"), at("c3"));
      due(one[0], x.text(at("c3")), one[1]);
    }
  }

  private static void fills() {
    edge("To FILL it to all PLACES between two corners, but its own: a COPY to each");
    Cellweave f = sheet("b2:=$a2+b$1");
    due("around it", f.fill(9, at("c3"), 0), 8);
    due("all()", f.all(), "a1:=$a1+a$1;b1:=$a1+b$1;c1:=$a1+c$1;a2:=$a2+a$1;b2:=$a2+b$1;c2:=$a2+c$1;a3:=$a3+a$1;b3:=$a3+b$1;c3:=$a3+c$1");
    Cellweave x = sheet("a1:5");
    due("its own alone", x.fill(0, 0, 0), 0);
    due("one other", x.fill(0, LAST, LAST), 1);
    due("a row with its own", x.fill(0, 7, 0), 7);
    due("a column without its own", x.fill(0, 8, 24), 3);
    due("the other corners", x.fill(0, at("d3"), at("c4")), 4);
    due("CELLS", x.house(0), 16);
    due("of an EMPTY one", x.fill(100, 0, 15), 16);
    due("what is left", x.house(0), 7);
    due("of an EMPTY one in it", x.fill(0, 0, 15), 15);
    Cellweave l = sheet("a1:1 b1:5");
    l.lock(1, true);
    due("its own may be LOCKED", l.fill(1, 0, 9), 3);
    l.lock(0, true);
    idle(l, "another LOCKED one", -9, () -> l.fill(1, 0, 9));
    edge("fill: if from, one or other is not 0 to 159");
    for (int p : new int[] {-1, 160, Integer.MIN_VALUE, Integer.MAX_VALUE}) {
      bad(x, "fill(" + p + ", 0, 0)", () -> x.fill(p, 0, 0));
      bad(x, "fill(0, " + p + ", 0)", () -> x.fill(0, p, 0));
      bad(x, "fill(0, 0, " + p + ")", () -> x.fill(0, 0, p));
    }
  }

  private static void goOns() {
    edge("goOn: behind those at a PLACE and below it each next PLACE below gets as much more as the second one has more than the first");
    Cellweave x = sheet("a1:1/2 a2:1/3 b1:5 b2:5 c1:-1 c2:2 d4:9");
    due("falling", x.goOn(0, 3) + " " + column(x, "a1", 6), "-1/6 1/2,1/3,1/6,0,-1/6,");
    due("as much", x.goOn(1, 1) + " " + column(x, "b1", 4), "5 5,5,5,");
    due("over what stands there", x.goOn(2, 2) + " " + column(x, "c1", 5), "8 -1,2,5,8,");
    due("again with others", x.goOn(10, 2) + " " + column(x, "c1", 5), "11 -1,2,5,8,11");
    due("they are constants", "" + x.ofPlace(at("c5"), 1) + x.ofPlace(at("c5"), 0), "11");
    Cellweave f = sheet("a1:1 a2:2 a3:=a1 a4:abc");
    due("a formula is written over", f.goOn(0, 2) + f.all(), "4a1:1;a2:2;a3:3;a4:4");
    edge("goOn: \"-9\", also if not both are constant NUMBERS");
    String[] pairs = {"", "a1:1", "a2:1", "a1:=1 a2:2", "a1:1 a2:=2", "a1:abc a2:2", "a1:1 a2:abc", "a1:1 a2:1234567", "a1:=1&'' a2:2", "a1:1/0 a2:2"};
    for (String pair : pairs) {
      Cellweave p = sheet(pair);
      idle(p, pair, "-9", () -> p.goOn(0, 1));
    }
    Cellweave s = sheet("b1:1 b2:2 a1:=O(b1:b2)");
    idle(s, "what a LIST shows", "-9", () -> s.goOn(0, 1));
    Cellweave t = sheet("b1:1 a1:5 a2:=O(b1)");
    idle(t, "a LIST", "-9", () -> t.goOn(0, 1));
    edge("goOn: if first is not 0 to 159, or many not 1 to 18");
    Cellweave y = sheet("a1:1 a2:2");
    for (int p : new int[] {-1, 160, Integer.MIN_VALUE, Integer.MAX_VALUE}) {
      bad(y, "goOn(" + p + ", 1)", () -> y.goOn(p, 1));
    }
    for (int m : new int[] {0, -1, 19, Integer.MIN_VALUE, Integer.MAX_VALUE}) {
      bad(y, "goOn(0, " + m + ")", () -> y.goOn(0, m));
    }
    due("many 1", y.goOn(0, 1), "3");
    due("many 18", y.goOn(0, 18), "20");
    due("the last row", y.value(at("a20")), "20");
  }

  private static void goOnsBeyond() {
    edge("goOn: if something would be beyond the sheet");
    Cellweave x = sheet("a1:1 a2:2 h17:1 h18:2 g18:1 g19:2 f19:1 f20:2 e20:1");
    idle(x, "17 from the second row", "-9", () -> x.goOn(8, 18));
    idle(x, "behind the last row", "-9", () -> x.goOn(at("f19"), 1));
    idle(x, "the second one beyond", "-9", () -> x.goOn(at("e20"), 1));
    idle(x, "the last PLACE", "-9", () -> x.goOn(LAST, 1));
    idle(x, "two behind the last but one", "-9", () -> x.goOn(at("g18"), 2));
    idle(x, "three behind", "-9", () -> x.goOn(at("h17"), 3));
    due("two to the end", x.goOn(at("h17"), 2), "4");
    due("one to the end", x.goOn(at("g18"), 1), "3");
    due("the last PLACE", x.value(LAST) + x.value(at("g20")), "43");
    Cellweave y = sheet("a2:1 a3:2");
    idle(y, "18 from the second row", "-9", () -> y.goOn(8, 18));
    due("17 to the end", y.goOn(8, 17), "19");
    idle(y, "behind the last row of the first column", "-9", () -> y.goOn(at("a19"), 1));
    idle(y, "two behind the last but one", "-9", () -> y.goOn(at("a18"), 2));
    idle(y, "the last PLACE of the first column", "-9", () -> y.goOn(at("a20"), 1));
    due("one to the end of the first column", y.goOn(at("a18"), 1), "19");
    due("16 from the fourth row", y.goOn(16, 16), "19");
  }

  /** Makes the NUMBER at a3 nineteen times greater with each turn; answers the sheet with it at a1. */
  private static Cellweave grown(int turns) {
    Cellweave x = sheet("a1:0 a2:1");
    for (int i = 0; i < turns; i++) {
      due("goOn()", x.goOn(0, 18).equals("-9"), false);
      x.copy(at("a20"), 8);
    }
    return x;
  }

  private static void goOnsLong() {
    edge("goOn: if something would be \"#long\"");
    Cellweave x = grown(20);
    due("19 to the power of 20", x.value(8), "37589973457545958193355601");
    due("18 more", x.goOn(0, 17), "676619522235827247480400818");
    due("just below", "" + x.goOn(0, 18), "714209495693373205673756419");
    x.copy(at("a20"), 8);
    idle(x, "beyond", "-9", () -> x.goOn(0, 1));
    Cellweave z = grown(21);
    z.copy(8, 1);
    z.copy(0, 9);
    due("falling below 0", z.goOn(1, 1), "-714209495693373205673756419");
    due("falling on", z.goOn(1, 2), "-9");
    z.copy(at("b3"), 2);
    z.copy(8, 10);
    idle(z, "the difference is too long, and so is what comes", "-9", () -> z.goOn(2, 1));
    edge("seven digits and more are NUMBERS");
    due("kind", "" + x.ofPlace(8, 0) + x.ofPlace(8, 1), "11");
  }

  private static void goOnsDifference() {
    edge("goOn: (the difference of the two, too) would be \"#long\"");
    Cellweave x = new Cellweave();
    chain(x, "a", 997, 991, 983, 977, 5);
    chain(x, "b", 971, 967, 953, 947);
    set(x, "c1", "1/512");
    x.copy(1, 10);
    due("goOn()", x.goOn(2, 1).equals("-9"), false);
    x.copy(0, 3);
    x.copy(at("c3"), 11);
    BigInteger[] first = fraction(x.value(3));
    BigInteger[] second = fraction(x.value(11));
    BigInteger[] difference = less(second, first);
    BigInteger[] next = less(second, less(first, second));
    due("digits of the difference's bottom", difference[1].bitLength(), 91);
    due("digits of what comes", "" + (next[0].bitLength() <= 90) + next[1].bitLength(), "true90");
    idle(x, "goOn()", "-9", () -> x.goOn(3, 1));
    set(x, "e1", "=d2+d2-d1");
    due("the formula for it can be reckoned", x.value(4), next[0] + "/" + next[1]);
  }

  /** Leaves a NUMBER at the top of a column whose bottom is the product of all these. */
  private static void chain(Cellweave x, String column, int... bottoms) {
    set(x, column + "1", "1/" + bottoms[0]);
    for (int i = 1; i < bottoms.length; i++) {
      set(x, column + "2", "1/" + bottoms[i]);
      due("goOn()", x.goOn(at(column + "1"), 1).equals("-9"), false);
      x.copy(at(column + "3"), at(column + "1"));
    }
  }

  private static BigInteger[] fraction(String shown) {
    String[] parts = shown.split("/");
    return new BigInteger[] {new BigInteger(parts[0]), new BigInteger(parts.length > 1 ? parts[1] : "1")};
  }

  private static BigInteger[] less(BigInteger[] one, BigInteger[] other) {
    BigInteger top = one[0].multiply(other[1]).subtract(other[0].multiply(one[1]));
    BigInteger bottom = one[1].multiply(other[1]);
    BigInteger common = top.gcd(bottom);
    return new BigInteger[] {top.divide(common), bottom.divide(common)};
  }

  private static void exceptionsFirst() {
    edge("exceptions go ahead of -9");
    Cellweave x = full();
    x.lock(0, true);
    x.lock(LAST, true);
    type(x, "1");
    bad(x, "copy() from nowhere to a LOCKED one", () -> x.copy(160, 0));
    bad(x, "fill() from nowhere over a LOCKED one", () -> x.fill(-1, 0, 0));
    bad(x, "fill() to nowhere over a LOCKED one", () -> x.fill(0, 0, 160));
    bad(x, "goOn() beyond with many 0", () -> x.goOn(LAST, 0));
    bad(x, "goOn() beyond with many 19", () -> x.goOn(LAST, 19));
    bad(x, "putIn() of no row", () -> x.putIn(false, 20));
    bad(x, "putIn() of no column", () -> x.putIn(true, 8));
    bad(x, "takeOut() of no row", () -> x.takeOut(false, -1));
    bad(x, "sort() by no column", () -> x.sort(0, 1, 8));
    bad(x, "sort() of no rows", () -> x.sort(19, 20, 0));
    bad(x, "goal() from beyond", () -> x.goal(0, 0, 1000, 1000, 0));
    bad(x, "goal() to beyond", () -> x.goal(0, 0, 0, 21, 0));
    bad(x, "goal() of nowhere", () -> x.goal(0, 160, 0, 0, 0));
    x.keep(0);
    x.back(1);
    for (int i = 0; i < 8; i++) {
      set(x, "" + (char) ('a' + i) + "19", "1");
    }
    idle(x, "join() of too many", -9, () -> x.join(1, 0));
    bad(x, "join() of too many with no VERSION", () -> x.join(3, 0));
    bad(x, "join() with no other one", () -> x.join(1, 3));
  }

  private static void sorts() {
    edge("Sorts rows by what they show in a column: all CELLS of a row go with it. LOCKS and CHECKS stay");
    Cellweave x = sheet("a1:3 b1:c h2:9 a2:1 a4:2 a5:0 e9:=a1+$a$2");
    x.check(0, 1, 1);
    x.name(0, 0, 8);
    due("sort() of rows 1 to 4", x.sort(0, 3, 0), 4);
    due("all()", x.all(), "a1:1;h1:9;a2:2;a3:3;b3:c;a5:0;e9:=a1+$a$2");
    due("CHECK and name stay", x.bad() + x.named(0), "a1:a2");
    edge("sort: Returns how many rows go to another one (rows without CELLS, too)");
    due("sorted already", x.sort(0, 3, 0), 0);
    due("rows without CELLS", sheet("a3:1").sort(0, 3, 0), 3);
    due("rows without CELLS all", new Cellweave().sort(0, 19, 7), 0);
    due("one row", x.sort(2, 2, 0), 0);
    due("like ones", sheet("a1:1 b1:2 a2:1 b2:1").sort(0, 1, 0), 0);
    due("EMPTY ones in the column", sheet("b1:2 b2:1").sort(0, 1, 0), 0);
    due("all rows", sheet("a20:1 b1:5").sort(0, 19, 0), 20);
    due("the last row", sheet("a20:1 a19:5").sort(18, 19, 0), 2);
    due("by the last column", sheet("h1:5 h2:4").sort(0, 1, 7), 2);
    Cellweave h = sheet("a1:9 h1:9 h3:5 g3:1 h4:2 g4:3 h5:7 g5:2 h6:4 g6:0 a20:1 h20:-1");
    due("by the last column, rows 3 to 6", h.sort(2, 5, 7), 4);
    due("columns g and h", column(h, "g1", 7) + " " + column(h, "h1", 7), ",,3,0,1,2, 9,,2,4,5,7,");
    due("by the column ahead of it", h.sort(2, 5, 6) + " " + column(h, "h3", 4), "4 4,5,7,2");
    edge("sort: -9, also if a formula stands in one of these rows");
    for (String cell : new String[] {"h3", "a3", "d5", "h5"}) {
      Cellweave f = sheet(cell + ":=a1");
      idle(f, cell, -9, () -> f.sort(2, 4, 0));
      due("ahead of it", f.sort(0, 1, 0), 0);
      due("behind it", f.sort(5, 9, 0), 0);
    }
    edge("sort: if first is not 0 to 19, last not first to 19, or column not 0 to 7");
    int[][] wrong = {{-1, 5, 0}, {20, 20, 0}, {3, 2, 0}, {0, 20, 0}, {19, 20, 0}, {0, 1, -1}, {0, 1, 8}, {5, Integer.MIN_VALUE, 0},
        {Integer.MIN_VALUE, 0, 0}, {0, Integer.MAX_VALUE, 0}, {Integer.MAX_VALUE, Integer.MAX_VALUE, 0}, {0, 0, Integer.MAX_VALUE},
        {0, 0, Integer.MIN_VALUE}};
    for (int[] one : wrong) {
      bad(x, "sort(" + one[0] + ", " + one[1] + ", " + one[2] + ")", () -> x.sort(one[0], one[1], one[2]));
    }
    due("sort(19, 19, 7)", x.sort(19, 19, 7), 0);
  }

  private static void sortKinds() {
    edge("sort: as a LIST is sorted, EMPTY ones last");
    Cellweave x = sheet("a2:b a3:12 a4:-1/2 a5:a a6:1234567 a8:12 b1:1 b2:2 b3:3 b4:4 b5:5 b6:6 b7:7 b8:8");
    due("sort()", x.sort(0, 8, 0), 7);
    due("column a", column(x, "a1", 9), "-1/2,12,12,1234567,a,b,,,");
    due("column b, like ones as they come", column(x, "b1", 9), "4,3,8,6,5,2,1,7,");
    edge("sort: by what they show in a column (what a LIST spills there, too)");
    Cellweave y = sheet("h1:=1/0 h2:=T h3:=X h4:5 h5:=S(n0) a1:=U(h1:h5) b11:1 b2:2");
    due("a formula in the first row", y.sort(0, 1, 0), -9);
    Cellweave z = sheet("d1:=1/0 e1:=T f1:=X g1:5 h1:=S(n0) a1:=U(d1:h1) b2:2 b3:3 b4:4 b5:5 b6:6");
    due("what is shown", column(z, "a1", 6), "#zero,true,false,5,#name,");
    due("sort()", z.sort(1, 5, 0), 2);
    due("NUMBERS, false, true, FAULTS, EMPTY", column(z, "b2", 5), "4,3,2,5,6");
    due("what is shown stays", column(z, "a1", 6), "#zero,true,false,5,#name,");
    Cellweave e = sheet("a1:a b1:1 b2:2 a3:1 b3:3");
    due("EMPTY behind a text", e.sort(0, 2, 0), 3);
    due("rows", column(e, "b1", 3), "3,1,2");
    Cellweave t = sheet("g1:='' h1:1 a1:=U(f1:h1) b1:1 b2:2 b3:3");
    due("a text without signs is ahead of EMPTY", t.sort(1, 2, 0), 0);
    due("a NUMBER is ahead of it", sheet("g1:='' h1:1 a1:=U(g1:h1) a4:='' b2:2").sort(1, 2, 0), 0);
  }

  private static void names() {
    edge("name: Returns 1 if it was told before, otherwise 0");
    Cellweave x = sheet("a1:1 b2:5");
    for (int n = 0; n <= 5; n++) {
      due("name(" + n + ")", x.name(n, 0, LAST), 0);
      due("name(" + n + ") again", x.name(n, LAST, LAST), 1);
      due("house(5)", x.house(5), n + 1);
    }
    edge("named: its corners, the one with the smaller row and column first");
    int[][] corners = {{0, 9}, {9, 0}, {1, 8}, {8, 1}};
    for (int[] one : corners) {
      x.name(0, one[0], one[1]);
      due("name(" + one[0] + ", " + one[1] + ")", x.named(0), "a1:b2");
    }
    x.name(1, 0, LAST);
    due("the whole sheet", x.named(1), "a1:h20");
    x.name(1, 7, at("a20"));
    due("by the other corners", x.named(1), "a1:h20");
    x.name(1, 72, 71);
    due("rows 9 and 10", x.named(1), "a9:h10");
    edge("name: NONE: it is told no more (with NONE not looked at)");
    due("with 160", x.name(5, -1, 160), 1);
    due("with -1", x.name(4, -1, -1), 1);
    due("with MIN", x.name(3, -1, Integer.MIN_VALUE), 1);
    due("again", x.name(3, -1, Integer.MAX_VALUE), 0);
    due("named()", x.named(5) + x.named(4) + x.named(3), "");
    due("house(5)", x.house(5), 3);
    edge("name: if name is not 0 to 5, one not NONE to 159, or other (without NONE) not 0 to 159");
    for (int n : new int[] {-1, 6, Integer.MIN_VALUE, Integer.MAX_VALUE}) {
      bad(x, "name(" + n + ")", () -> x.name(n, 0, 0));
      bad(x, "name(" + n + ", NONE)", () -> x.name(n, -1, 0));
      bad(x, "named(" + n + ")", () -> x.named(n));
    }
    for (int p : new int[] {-2, 160, Integer.MIN_VALUE, Integer.MAX_VALUE}) {
      bad(x, "name(0, " + p + ", 0)", () -> x.name(0, p, 0));
      bad(x, "name(0, 0, " + p + ")", () -> x.name(0, 0, p));
    }
    bad(x, "name(0, 0, -1)", () -> x.name(0, 0, -1));
    bad(x, "name(0, 159, -1)", () -> x.name(0, LAST, -1));
  }

  private static void locks() {
    edge("lock: Returns 1 if it was, otherwise 0");
    Cellweave x = new Cellweave();
    due("not LOCKED", x.lock(LAST, false), 0);
    due("LOCKED", x.lock(LAST, true), 0);
    due("LOCKED again", x.lock(LAST, true), 1);
    due("ofPlace()", "" + x.ofPlace(LAST, 7) + x.ofPlace(LAST - 1, 7) + x.house(6), "101");
    due("no more", x.lock(LAST, false), 1);
    due("ofPlace()", "" + x.ofPlace(LAST, 7) + x.house(6), "00");
    edge("lock: if place is not 0 to 159");
    for (int p : new int[] {-1, 160, Integer.MIN_VALUE, Integer.MAX_VALUE}) {
      bad(x, "lock(" + p + ")", () -> x.lock(p, true));
      bad(x, "lock(" + p + ") no more", () -> x.lock(p, false));
      bad(x, "check(" + p + ")", () -> x.check(p, 0, 1));
    }
  }

  private static void checks() {
    edge("It is BAD, if it shows something, and not a NUMBER within these");
    Cellweave x = sheet("a1:5 b1:11/2 c1:-5");
    int[][] all = {{0, 5, 5, 0}, {0, 4, 5, 0}, {0, 5, 6, 0}, {0, 4, 4, 1}, {0, 6, 6, 1}, {0, 6, 9, 1}, {0, 0, 4, 1}, {1, 5, 6, 0}, {1, 6, 7, 1}, {1, 4, 5, 1},
        {1, 6, 6, 1}, {2, -5, -5, 0}, {2, -4, 0, 1}, {2, -9, -6, 1}, {2, -9, 9, 0}, {0, Integer.MIN_VALUE, Integer.MAX_VALUE, 0},
        {0, Integer.MIN_VALUE, Integer.MIN_VALUE, 1}, {0, Integer.MAX_VALUE, Integer.MAX_VALUE, 1}, {2, Integer.MIN_VALUE, -5, 0},
        {2, Integer.MIN_VALUE, -6, 1}, {0, 5, Integer.MAX_VALUE, 0}, {0, 6, Integer.MAX_VALUE, 1}};
    for (int[] one : all) {
      due("check(" + one[0] + ", " + one[1] + ", " + one[2] + ")", x.check(one[0], one[1], one[2]), one[3]);
      due("ofPlace() of 8", x.ofPlace(one[0], 8), one[3]);
    }
    edge("check: the greatest; below least: no CHECK any more");
    due("below", x.check(1, 1, 0), 0);
    due("BAD", x.check(0, 9, 9) + x.bad(), "10 2");
    due("one below", x.check(0, 9, 8) + x.bad(), "02");
    due("far below", x.check(2, Integer.MAX_VALUE, Integer.MIN_VALUE) + x.bad(), "0");
    due("house(7)", x.house(7), 0);
    x.clear(0);
    x.check(7, 0, -1);
    due("no CHECK in the last column", x.putIn(true, 7), 0);
    Cellweave g = sheet("a1:1 a2:0");
    set(g, "b1", "=2147*1000*1000+4836*100+47");
    g.check(1, Integer.MAX_VALUE, Integer.MAX_VALUE);
    due("the greatest int", g.value(1) + g.ofPlace(1, 8), "21474836470");
    set(g, "b1", "=2147*1000*1000+4836*100+48");
    due("one more", g.value(1) + g.ofPlace(1, 8), "21474836481");
    set(g, "c1", "=-2147*1000*1000-4836*100-48");
    due("the least int", g.value(2) + g.check(2, Integer.MIN_VALUE, Integer.MIN_VALUE), "-21474836480");
    due("one more", g.check(2, Integer.MIN_VALUE + 1, 0), 1);
  }

  private static void checkKinds() {
    edge("BAD: something that is no NUMBER; EMPTY is not");
    Cellweave x = sheet("a1:abc b1:='' c1:=T d1:=1/0 e1:=e1 g1:=h1 a3:1 a4:9 b3:=O(a3:a4)");
    for (int p : new int[] {0, 1, 2, 3, 4, 6, 7, at("b4"), at("b5"), LAST}) {
      boolean isBad = p < 5 || p == at("b4");
      due("check(" + p + ")", x.check(p, 0, 5), isBad ? 1 : 0);
      due("ofPlace(" + p + ", 8)", x.ofPlace(p, 8), isBad ? 1 : 0);
    }
    due("bad()", x.bad(), "0 1 2 3 4 " + at("b4"));
    due("house(7)", x.house(7), 6);
    set(x, "h20", "6");
    due("what is put there", x.bad(), "0 1 2 3 4 " + at("b4") + " 159");
    x.clear(LAST);
    due("what is EMPTY again", x.bad(), "0 1 2 3 4 " + at("b4"));
  }

  private static void goals() {
    edge("goal: the least whole number from from to to, with which another one (or that one) shows the NUMBER wanted");
    Cellweave x = sheet("a1:1 b1:=a1*a1 c1:=T d1:=a1/2 e1:=a1&'' f1:=1/a1");
    due("the least of two", x.goal(0, 1, -9, 9, 9), -3);
    due("the one left", x.goal(0, 1, -2, 9, 9), 3);
    due("at from", x.goal(0, 1, 3, 9, 9), 3);
    due("at to", x.goal(0, 1, -2, 3, 9), 3);
    due("from is to", x.goal(0, 1, 3, 3, 9), 3);
    idle(x, "one too small", -10000, () -> x.goal(0, 1, -2, 2, 9));
    idle(x, "one too great", -10000, () -> x.goal(0, 1, 4, 24, 9));
    idle(x, "a TRUTH", -10000, () -> x.goal(0, 2, 0, 9, 1));
    idle(x, "a fraction", -10000, () -> x.goal(0, 3, 3, 3, 1));
    idle(x, "a text", -10000, () -> x.goal(0, 4, 0, 9, 5));
    due("behind a FAULT", x.goal(0, 5, -1, 5, 1), 1);
    due("that one", x.goal(0, 0, -5, 5, 4), 4);
    due("one that is EMPTY", x.goal(99, 99, 0, 0, 0), 0);
    due("it is put there", x.text(99), "0");
    idle(x, "EMPTY is not 0", -10000, () -> x.goal(0, 98, 0, 5, 0));
    due("one that does not hang on it", x.goal(0, 99, 7, 9, 0), 7);
    due("a formula is written over", x.goal(1, 1, 5, 6, 6) + x.text(1), "66");
    due("the least from", x.goal(0, 0, -999, -999, -999), -999);
    due("the greatest to", x.goal(0, 0, 999, 1019, 1019), 1019);
    due("it stays a NUMBER of its own", x.value(0), "1019");
    idle(x, "wanted MAX", -10000, () -> x.goal(0, 0, 0, 5, Integer.MAX_VALUE));
    idle(x, "wanted MIN", -10000, () -> x.goal(0, 0, 0, 5, Integer.MIN_VALUE));
    due("the 21st", x.goal(0, 0, 5, 25, 25), 25);
    Cellweave r = sheet("a1:=b1 b1:=a1+1");
    due("a RING that goes by it", r.goal(0, 1, 0, 9, 6) + r.value(1), "56");
    edge("goal: if in or out is not 0 to 159, from not -999 to 999, or to not from to from + 20");
    for (int p : new int[] {-1, 160, Integer.MIN_VALUE, Integer.MAX_VALUE}) {
      bad(x, "goal(" + p + ")", () -> x.goal(p, 0, 0, 0, 0));
      bad(x, "goal(0, " + p + ")", () -> x.goal(0, p, 0, 0, 0));
    }
    int[][] wrong = {{-1000, -1000}, {-1000, -990}, {1000, 1000}, {Integer.MIN_VALUE, Integer.MIN_VALUE}, {Integer.MAX_VALUE, Integer.MAX_VALUE}, {5, 4},
        {5, 26}, {0, -1}, {0, 21}, {0, Integer.MAX_VALUE}, {0, Integer.MIN_VALUE}, {-999, -978}, {999, 1020}, {999, 998}};
    for (int[] one : wrong) {
      bad(x, "goal(from " + one[0] + ", to " + one[1] + ")", () -> x.goal(0, 0, one[0], one[1], 0));
    }
  }
}
