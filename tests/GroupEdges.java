/** Edges of promises 20 to 26 and 38: GROUPS, UNDO, VERSIONS. */
public final class GroupEdges extends Bench {
  public static void main(String[] args) {
    opens();
    emptyGroups();
    undoOfOpenGroups();
    undoWithout();
    twelve();
    twelveWithGroups();
    redos();
    redoEnds();
    whatIsUndone();
    notTouched();
    keeps();
    keepsTaken();
    backs();
    backsTheSame();
    differs();
    joins();
    joinsOfEmpty();
    joinsOfOneVersion();
    joinsOfNames();
    joinsTheSame();
    arguments();
    end();
  }

  private static void opens() {
    edge("open: A GROUP begins (it ends the one that is open, if there is one). Returns how many can be UNDONE");
    Cellweave x = new Cellweave();
    due("open()", x.open(), 0);
    due("open() again", x.open(), 0);
    set(x, "a1", "1");
    due("it counts as soon as it has an EDIT", x.house(8), 1);
    set(x, "a2", "2");
    due("one GROUP", x.house(8), 1);
    due("open() ends it", x.open(), 1);
    set(x, "a3", "3");
    due("another one", x.house(8), 2);
    edge("close: The open GROUP ends. Returns how many can be UNDONE; NONE, if none is open");
    due("close()", x.close(), 2);
    due("close() again", x.close(), -1);
    set(x, "a4", "4");
    set(x, "a5", "5");
    due("one EDIT each", x.house(8), 4);
    due("close()", x.close(), -1);
    edge("UNDO: what the last GROUP of EDITS changed is as ahead of it");
    x.undo();
    x.undo();
    due("two of one EDIT", x.all(), "a1:1;a2:2;a3:3");
    x.undo();
    due("one that open() begins", x.all(), "a1:1;a2:2");
    due("all from open() on", x.undo() + x.all(), "0");
  }

  private static void emptyGroups() {
    edge("A GROUP counts as soon as it has an EDIT; without one it is none");
    Cellweave x = sheet("a1:1");
    due("open()", x.open(), 1);
    due("close()", x.close(), 1);
    due("house(8)", x.house(8), 1);
    x.undo();
    x.open();
    x.close();
    due("what can be DONE AGAIN stays", x.house(9), 1);
    x.open();
    x.clear(5);
    due("an EDIT that changes nothing counts", x.close(), 1);
    due("what can be DONE AGAIN", x.house(9), 0);
    due("undo()", x.undo() + x.all(), "0");
  }

  private static void undoOfOpenGroups() {
    edge("undo: UNDOES the last GROUP (an open one ends ahead of that)");
    Cellweave x = sheet("a1:1 a2:2");
    x.open();
    due("an open GROUP without an EDIT: the one ahead of it", x.undo() + x.all(), "1a1:1");
    due("it has ended", x.close(), -1);
    x.open();
    set(x, "b1", "1");
    set(x, "b2", "1");
    due("an open GROUP", x.undo() + x.all(), "1a1:1");
    due("it has ended", x.close(), -1);
    set(x, "c1", "1");
    set(x, "c2", "1");
    due("each EDIT is a GROUP then", x.house(8), 3);
    edge("redo: DOES AGAIN what was UNDONE last (an open GROUP ends ahead of that)");
    x.undo();
    x.open();
    due("redo()", x.redo() + x.all(), "0a1:1;c1:1;c2:1");
    due("it has ended", x.close(), -1);
    x.open();
    set(x, "d1", "1");
    x.undo();
    x.open();
    x.redo();
    set(x, "d2", "1");
    set(x, "d3", "1");
    due("each EDIT is a GROUP then", x.house(8), 6);
    x.undo();
    due("undo()", x.all(), "a1:1;c1:1;d1:1;c2:1;d2:1");
  }

  private static void undoWithout() {
    edge("undo: if there is none");
    Cellweave x = new Cellweave();
    notNow(x, "undo()", () -> x.undo());
    x.open();
    notNow(x, "undo() in an open GROUP", () -> x.undo());
    due("A method that throws an exception changes nothing: the GROUP is open", x.close(), 0);
    set(x, "a1", "1");
    x.undo();
    notNow(x, "undo() of what is UNDONE", () -> x.undo());
    due("what can be DONE AGAIN", x.house(9), 1);
    edge("an open GROUP goes on behind calls that are REFUSED or wrong");
    Cellweave g = sheet("a1:1");
    g.lock(9, true);
    g.open();
    set(g, "a2", "1");
    due("clear()", g.clear(9), -9);
    bad(g, "clear(160)", () -> g.clear(160));
    notNow(g, "redo()", () -> g.redo());
    set(g, "a3", "1");
    due("one GROUP", g.close() + "," + g.undo() + g.all(), "3,2a1:1");
    edge("redo: if there is none");
    x.redo();
    notNow(x, "redo()", () -> x.redo());
    x.open();
    set(x, "a2", "1");
    notNow(x, "redo() in an open GROUP", () -> x.redo());
    set(x, "a3", "1");
    due("the GROUP is open", x.close(), 2);
    x.undo();
    due("it was one", x.all(), "a1:1");
  }

  private static void twelve() {
    edge("the last 12 GROUPS can be UNDONE");
    Cellweave x = new Cellweave();
    for (int i = 1; i <= 30; i++) {
      set(x, "a1", "" + i);
      due("house(8) behind " + i, x.house(8), Math.min(i, 12));
    }
    for (int i = 1; i <= 12; i++) {
      due("undo()", x.undo(), 12 - i);
      due("value()", x.value(0), "" + (30 - i));
      due("house(9)", x.house(9), i);
    }
    notNow(x, "the 13th", () -> x.undo());
    due("value()", x.value(0), "18");
    for (int i = 1; i <= 12; i++) {
      due("redo()", x.redo(), 12 - i);
      due("value()", x.value(0), "" + (18 + i));
      due("house(8)", x.house(8), i);
    }
    notNow(x, "redo()", () -> x.redo());
    due("open()", x.open(), 12);
    due("close()", x.close(), 12);
    set(x, "a1", "31");
    due("house(8)", x.house(8), 12);
    for (int i = 0; i < 12; i++) {
      x.undo();
    }
    due("the first one is lost", x.value(0), "19");
  }

  private static void twelveWithGroups() {
    edge("the last 12 GROUPS can be UNDONE (all from open() to close())");
    Cellweave x = new Cellweave();
    for (int i = 1; i <= 14; i++) {
      x.open();
      for (int j = 0; j < 5; j++) {
        set(x, "a" + (j + 1), "" + i);
      }
      due("close()", x.close(), Math.min(i, 12));
    }
    for (int i = 0; i < 12; i++) {
      x.undo();
    }
    notNow(x, "the 13th", () -> x.undo());
    due("all()", x.all(), "a1:2;a2:2;a3:2;a4:2;a5:2");
    x.redo();
    x.open();
    set(x, "b1", "1");
    due("an EDIT behind one that is DONE AGAIN", x.house(8) + "," + x.house(9), "2,0");
    x.undo();
    x.undo();
    due("all()", x.all(), "a1:2;a2:2;a3:2;a4:2;a5:2");
    due("house(9)", x.house(9), 2);
  }

  private static void redos() {
    edge("What was UNDONE can be DONE AGAIN");
    Cellweave x = sheet("a1:1 a2:=a1 a3:=a2");
    x.takeOut(false, 1);
    x.name(2, 0, 8);
    String done = seen(x);
    x.undo();
    x.undo();
    x.undo();
    due("all()", x.all(), "a1:1;a2:=a1");
    due("redo()", x.redo(), 2);
    due("redo()", x.redo(), 1);
    due("redo()", x.redo(), 0);
    due("all()", x.all() + x.named(2), "a1:1;a2:=?a1:a2");
    due("house(8)", x.house(8), 5);
    x.undo();
    x.redo();
    due("but for what was RECKONED", x.all() + x.named(2) + x.value(8), done.substring(0, done.indexOf('\n')) + "a1:a2#gone");
  }

  private static void redoEnds() {
    edge("till another EDIT is made");
    Cellweave x = sheet("a1:1 a2:2");
    x.lock(99, true);
    x.undo();
    x.undo();
    due("house(9)", x.house(9), 2);
    type(x, "=1+");
    x.put(0);
    x.keep(0);
    x.reason(0);
    x.whatIf(0, 0, 1, 1, 1);
    x.goal(0, 1, 0, 5, 9);
    x.goOn(0, 1);
    due("what is no EDIT leaves it", x.house(9), 2);
    x.redo();
    due("DOING AGAIN leaves the rest", x.house(9), 1);
    x.undo();
    due("UNDOING, too", x.house(9), 2);
    x.check(0, 1, 0);
    due("an EDIT does not", x.house(9), 0);
    notNow(x, "redo()", () -> x.redo());
    due("house(8)", x.house(8), 2);
  }

  private static void whatIsUndone() {
    edge("UNDO: what the last GROUP of EDITS changed is as ahead of it (CELLS, names, LOCKS, CHECKS)");
    Deed[] deeds = {x -> set(x, "a1", "7"), x -> x.clear(0), x -> x.copy(0, 9), x -> x.fill(0, 0, 20), x -> x.goOn(0, 3), x -> x.putIn(false, 1),
        x -> x.takeOut(false, 1), x -> x.takeOut(true, 0), x -> x.move(false, 0, 9), x -> x.move(true, 0, 5), x -> x.sort(0, 4, 0),
        x -> x.name(0, 50, 60), x -> x.name(0, -1, 0), x -> x.lock(99, true), x -> x.lock(LAST - 1, false), x -> x.check(0, 9, 9), x -> x.check(8, 9, 8),
        x -> x.goal(0, 0, 8, 9, 9), x -> x.back(1), x -> x.join(0, 1)};
    for (int i = 0; i < deeds.length; i++) {
      Cellweave x = sheet("a1:5 a2:4 h9:=S(a1:a2)");
      x.name(0, 0, 8);
      x.lock(at("g10"), true);
      x.check(8, 0, 3);
      x.keep(0);
      set(x, "b9", "1");
      x.keep(1);
      x.undo();
      set(x, "c9", "=a1+a2");
      String ahead = shownAnd(x);
      Object got = deeds[i].on(x);
      String then = shownAnd(x);
      due("deed " + i + " answers -9", "-9".equals("" + got), false);
      x.undo();
      due("deed " + i + " UNDONE", shownAnd(x), ahead);
      x.redo();
      due("deed " + i + " DONE AGAIN", shownAnd(x), then);
    }
  }

  /** All but for what was RECKONED and what can be UNDONE. */
  private static String shownAnd(Cellweave x) {
    StringBuilder b = new StringBuilder(x.all());
    for (int p = 0; p <= LAST; p++) {
      b.append(x.value(p)).append(x.ofPlace(p, 7)).append(x.ofPlace(p, 8)).append(x.ofPlace(p, 2)).append(' ');
    }
    return b.append(x.named(0)).append(x.bad()).toString();
  }

  private static void notTouched() {
    edge("The INPUT and VERSIONS are not touched by that");
    Cellweave x = sheet("a1:1");
    x.keep(0);
    set(x, "a1", "2");
    x.keep(1);
    type(x, "=a1+1");
    x.knock();
    x.undo();
    due("undo()", x.input() + x.differs(0) + "," + x.differs(1), "=a1+1,0");
    x.undo();
    due("undo()", x.input() + x.differs(0) + "," + x.differs(1), "=a1+10,0");
    x.redo();
    due("redo()", x.input() + x.differs(0) + "," + x.differs(1), "=a1+1,0");
    due("the DOOR", x.house(11), 1);
    x.put(1);
    x.undo();
    due("the INPUT of a put() that is UNDONE does not come back", x.input(), "");
    due("RECKONED ever is not UNDONE", x.house(10), 1);
    x.redo();
    due("it is RECKONED again", x.house(10), 2);
  }

  private static void keeps() {
    edge("keep: Returns how many PLACES have another TEXT in it than before");
    Cellweave x = new Cellweave();
    due("nothing in an empty one", x.keep(0), 0);
    set(x, "a1", "1");
    set(x, "h20", "=a1");
    due("two", x.keep(0), 2);
    due("the same", x.keep(0), 0);
    set(x, "a1", "2/2");
    due("the same TEXT", x.keep(0), 0);
    set(x, "a1", "2");
    x.clear(LAST);
    set(x, "b1", "=a1");
    due("another one, none and one more", x.keep(0), 3);
    due("an empty one", x.keep(2), 2);
    due("the others stay", x.differs(1), "0 1");
    edge("VERSIONS are kept outside what is EDITED");
    int groups = x.house(8);
    int ever = x.house(10);
    x.undo();
    x.keep(1);
    due("house(8), house(9), house(10)", x.house(8) + "," + x.house(9) + "," + (x.house(10) - ever), groups - 1 + ",1,0");
    x.lock(5, true);
    x.check(0, 5, 5);
    due("LOCKS and CHECKS are no TEXTS", x.keep(1), 0);
    due("60 CELLS", full().keep(0), 60);
  }

  private static void keepsTaken() {
    edge("VERSIONS hold all CELLS and names (LOCKS and CHECKS stay)");
    Cellweave x = sheet("a1:1 b1:=a1");
    x.name(3, 0, 1);
    x.lock(0, true);
    x.check(1, 5, 5);
    x.keep(0);
    x.lock(0, false);
    x.check(1, 1, 1);
    x.lock(9, true);
    x.takeOut(false, 3);
    x.name(3, 5, 6);
    x.name(4, 5, 6);
    set(x, "a1", "3");
    due("back()", x.back(0), 1);
    due("LOCKS", "" + x.ofPlace(0, 7) + x.ofPlace(9, 7), "01");
    due("CHECKS", x.bad(), "");
    due("names", x.named(3) + x.named(4), "a1:b1");
    edge("a VERSION is not changed by what is done to the sheet");
    x.keep(1);
    x.fill(0, 0, 20);
    x.move(false, 0, 5);
    due("back()", x.back(1) > 0, true);
    due("all()", x.all(), "a1:1;b1:=a1");
  }

  private static void backs() {
    edge("back: The sheet gets TEXTS and names of a VERSION. Returns how many PLACES have another TEXT then");
    Cellweave x = sheet("a1:1 a2:2 b1:=a1 b2:=a2");
    x.name(0, 0, 8);
    x.keep(0);
    due("the same", x.back(0), 0);
    set(x, "a1", "5");
    x.clear(8);
    set(x, "c1", "7");
    x.name(0, -1, 0);
    x.name(1, 9, 9);
    due("three", x.back(0), 3);
    due("all()", x.all() + x.named(0) + x.named(1), "a1:1;b1:=a1;a2:2;b2:=a2a1:a2");
    x.name(1, 9, 9);
    due("a name alone", x.back(0) + x.named(1), "0");
    edge("VERSIONS (empty at first)");
    due("an empty one", x.back(1) + x.all() + x.named(0), "4");
    due("CELLS", x.house(0), 0);
    due("an empty one to an empty sheet", x.back(2), 0);
    x.undo();
    x.undo();
    due("undo()", x.house(0), 4);
    edge("back: 60 CELLS come, whatever stands there");
    Cellweave f = full();
    f.keep(0);
    f.back(1);
    set(f, "h20", "1");
    due("back()", f.back(0) + "," + f.house(0), "61,60");
  }

  /** A constant NUMBER of seven digits at a3. */
  private static Cellweave million() {
    Cellweave x = sheet("a1:1 a2:999999");
    due("goOn()", x.goOn(0, 1), "1999997");
    return x;
  }

  private static void backsTheSame() {
    edge("(Where by back() or join() a PLACE of the sheet has the same TEXT already, what stands there stays; keep() takes all as it stands.)");
    Cellweave x = million();
    x.keep(0);
    set(x, "a3", "1999997");
    due("a text", x.ofPlace(16, 0), 2);
    due("differs()", x.differs(0), "");
    due("back()", x.back(0) + "," + x.ofPlace(16, 0), "0,2");
    due("join()", x.join(0, 0) + "," + x.ofPlace(16, 0), "0,2");
    due("join() with an empty base", x.join(1, 0) + "," + x.ofPlace(16, 0), "0,2");
    due("keep()", x.keep(0), 0);
    x.clear(16);
    due("back() to the text", x.back(0) + "," + x.ofPlace(16, 0), "1,2");
    edge("a constant stays the VALUE that it is");
    Cellweave y = million();
    y.keep(0);
    y.clear(16);
    due("back() to the NUMBER", y.back(0) + "," + y.ofPlace(16, 0), "1,1");
    y.clear(16);
    y.keep(1);
    due("join() with the NUMBER", y.join(1, 0) + "," + y.ofPlace(16, 0), "0,1");
    set(y, "a3", "1999997");
    due("the sheet's text is the base's NUMBER", y.join(0, 2) + "," + y.ofPlace(16, 0), "0,0");
    y.undo();
    set(y, "a4", "5");
    y.keep(2);
    y.back(0);
    due("a text by now, of one TEXT with the NUMBER", y.join(0, 2) + "," + y.ofPlace(16, 0) + y.value(24), "0,25");
  }

  private static void differs() {
    edge("differs: the PLACES whose TEXT is another one in it than in the sheet");
    Cellweave x = sheet("a1:1 h20:=a1 c3:abc");
    due("an empty one", x.differs(2), "0 18 159");
    x.keep(2);
    due("none", x.differs(2), "");
    set(x, "a1", "2/2");
    due("the same TEXT", x.differs(2), "");
    set(x, "a1", "=1");
    due("a formula", x.differs(2), "0");
    set(x, "h20", "=$a1");
    due("HELD", x.differs(2), "0 159");
    x.clear(18);
    set(x, "c4", "abc");
    due("gone and new", x.differs(2), "0 18 26 159");
    x.name(0, 0, 0);
    x.lock(0, true);
    x.check(0, 5, 5);
    due("names, LOCKS, CHECKS are no TEXTS", x.differs(2), "0 18 26 159");
    String[][] pairs = {{"5", "a", "0"}, {"5", "abc", "0"}, {"abc", "5", "0"}, {"=1", "=12", "0"}, {"=12", "=1", "0"}, {"=a1", "=a1+1", "0"}, {"=a1+1", "=a1", "0"},
        {"=1", "1", "0"}, {"1", "=1", "0"}, {"=''", "''", "0"}, {"abc", "abd", "0"}, {"abc", "ab", "0"}, {"5", "-5", "0"}, {"1/2", "1/3", "0"}, {"1/2", "2", "0"},
        {"=a1", "=b1", "0"}, {"=S(a1)", "=L(a1)", "0"}, {"=O(a1)", "=U(a1)", "0"}, {"6/4", "3/2", ""}, {"-0", "0", ""}, {"007", "7", ""}, {"=07", "=7", "0"}};
    for (String[] one : pairs) {
      Cellweave p = sheet("a1:" + one[0]);
      p.keep(0);
      set(p, "a1", one[1]);
      due(one[0] + " and " + one[1], p.differs(0), one[2]);
    }
    for (String text : new String[] {"1999998", "2999997", "19999970", "1999990", "1999997a"}) {
      Cellweave m = million();
      m.keep(0);
      set(m, "a3", text);
      due("the NUMBER 1999997 and the text " + text, m.differs(0), "16");
    }
    Cellweave r = sheet("a9:1 b1:=a9 c1:=S(a8:a9) d1:=S(a8#)");
    r.keep(0);
    r.putIn(false, 8);
    due("PLACES that go", r.differs(0), "1 2 64 72");
    r.takeOut(false, 8);
    due("and come back", r.differs(0), "");
    r.takeOut(false, 7);
    due("what is GONE", r.text(3) + r.differs(0), "=S(?)1 2 3 56 64");
  }

  /** What comes at a1 with a text of the base, the sheet and the other one ("" is EMPTY), and how many CONFLICTS. */
  private static String joined(String base, String mine, String theirs) {
    Cellweave x = new Cellweave();
    String[] texts = {base, theirs, mine};
    for (int i = 0; i < 3; i++) {
      x.clear(0);
      if (!texts[i].isEmpty()) {
        set(x, "a1", texts[i]);
      }
      if (i < 2) {
        x.keep(i);
      }
    }
    int conflicts = x.join(0, 1);
    return x.text(0) + "," + conflicts;
  }

  private static void joins() {
    edge("JOINED: if sheet and other have the same, that; if the sheet has that of the base, the other's; if the other has that of the base, "
        + "the sheet's; else the sheet's, and it is a CONFLICT");
    due("all the same", joined("1", "1", "1"), "1,0");
    due("sheet and other the same", joined("1", "2", "2"), "2,0");
    due("the sheet has that of the base", joined("1", "1", "2"), "2,0");
    due("the other has that of the base", joined("1", "2", "1"), "2,0");
    due("a CONFLICT", joined("1", "2", "3"), "2,1");
    due("by TEXT", joined("2/4", "1/2", "3"), "3,0");
    due("a formula and a constant", joined("=1", "1", "=1"), "1,0");
    due("formulas", joined("=a2", "=$a2", "=a$2"), "=$a2,1");
    due("a text", joined("abc", "abc", "ab"), "ab,0");
  }

  private static void joinsOfEmpty() {
    edge("JOINED: PLACE by PLACE (EMPTY ones, too)");
    due("EMPTY in the base", joined("", "1", "1"), "1,0");
    due("EMPTY in base and sheet", joined("", "", "1"), "1,0");
    due("EMPTY in base and other", joined("", "1", ""), "1,0");
    due("EMPTY in sheet and other", joined("1", "", ""), ",0");
    due("EMPTY in the other, the sheet as the base", joined("1", "1", ""), ",0");
    due("EMPTY in the sheet, the other as the base", joined("1", "", "1"), ",0");
    due("EMPTY in the base, a CONFLICT", joined("", "1", "2"), "1,1");
    due("EMPTY in the sheet, a CONFLICT", joined("1", "", "2"), ",1");
    due("EMPTY in the other, a CONFLICT", joined("1", "2", ""), "2,1");
    due("all EMPTY", joined("", "", ""), ",0");
    edge("join: Returns how many CONFLICTS there were");
    Cellweave x = full();
    x.keep(0);
    x.back(2);
    set(x, "a1", "8");
    x.fill(0, 0, at("h7"));
    x.fill(0, at("a8"), at("d8"));
    due("60 CONFLICTS", x.join(2, 0), 60);
    due("all are the sheet's", x.value(0) + x.value(59), "88");
  }

  private static void joinsOfOneVersion() {
    edge("join: base and other may be one VERSION");
    Cellweave x = sheet("a1:1");
    x.keep(0);
    set(x, "a1", "2");
    set(x, "b1", "3");
    int groups = x.house(8);
    due("all stays", x.join(0, 0) + x.all(), "0a1:2;b1:3");
    due("it is an EDIT", x.house(8), groups + 1);
    due("an empty base, the sheet as it is", x.join(1, 2) + x.all(), "0a1:2;b1:3");
    x.keep(2);
    due("the sheet is the base", x.join(2, 1) + x.all(), "0");
    due("the sheet is the base, which the other one is not", x.join(1, 0) + x.all(), "0a1:1");
  }

  private static void joinsOfNames() {
    edge("Names likewise (by what named() tells), but these are no CONFLICTS");
    String[][] all = {{"", "", "", ""}, {"", "", "1", "1"}, {"", "1", "", "1"}, {"1", "", "", ""}, {"1", "1", "", ""}, {"1", "", "1", ""}, {"1", "2", "2", "2"},
        {"1", "1", "2", "2"}, {"1", "2", "1", "2"}, {"1", "2", "3", "2"}, {"", "1", "2", "1"}, {"1", "", "2", ""}, {"1", "2", "", "2"}};
    for (String[] one : all) {
      Cellweave x = new Cellweave();
      for (int i : new int[] {0, 2, 1}) {
        x.name(5, one[i].isEmpty() ? -1 : Integer.parseInt(one[i]), 20);
        if (i != 1) {
          x.keep(i == 0 ? 0 : 1);
        }
      }
      String due = one[3].isEmpty() ? "" : "" + (char) ('a' + Integer.parseInt(one[3])) + "1:e3";
      due("base " + one[0] + ", sheet " + one[1] + ", other " + one[2], x.join(0, 1) + x.named(5), "0" + due);
    }
    Cellweave y = new Cellweave();
    y.name(0, 0, 9);
    y.keep(0);
    y.name(0, 1, 8);
    y.keep(1);
    y.name(0, 9, 0);
    y.name(1, 3, 3);
    y.keep(2);
    y.back(0);
    due("the same by other corners", y.join(1, 2) + y.named(0) + y.named(1), "0a1:b2d1:d1");
  }

  private static void joinsTheSame() {
    edge("join: -9 (an EDIT by which there would be more than 60 CELLS is REFUSED)");
    Cellweave x = full();
    x.keep(0);
    x.back(1);
    set(x, "h20", "1");
    type(x, "1");
    idle(x, "61", -9, () -> x.join(1, 0));
    x.clear(LAST);
    x.name(0, 0, 0);
    due("60", x.join(1, 0) + "," + x.house(0) + x.named(0), "0,60a1:a1");
    x.clear(0);
    set(x, "h20", "1");
    due("one less, one more", x.join(0, 0) + "," + x.house(0), "0,60");
    Cellweave c = full();
    c.keep(0);
    c.clear(0);
    c.keep(1);
    set(c, "h20", "1");
    due("one goes by the other one, one comes", c.join(0, 1) + "," + c.house(0), "0,60");
  }

  private static void arguments() {
    edge("back, keep, differs: if version is not 0 to 2; join: if base or other is not 0 to 2");
    Cellweave x = sheet("a1:1");
    for (int v : new int[] {-1, 3, Integer.MIN_VALUE, Integer.MAX_VALUE}) {
      bad(x, "back(" + v + ")", () -> x.back(v));
      bad(x, "keep(" + v + ")", () -> x.keep(v));
      bad(x, "differs(" + v + ")", () -> x.differs(v));
      bad(x, "join(" + v + ", 0)", () -> x.join(v, 0));
      bad(x, "join(0, " + v + ")", () -> x.join(0, v));
    }
    for (int v = 0; v <= 2; v++) {
      due("keep(" + v + ")", x.keep(v), 1);
      due("back(" + v + ")", x.back(v), 0);
      due("differs(" + v + ")", x.differs(v), "");
      due("join(" + v + ")", x.join(v, v), 0);
    }
  }
}
