/** Edges of promises 12 to 14: rows and columns that are PUT IN, TAKEN OUT and MOVED. */
public final class LineEdges extends Bench {
  public static void main(String[] args) {
    putIns();
    putInsAtTheEnds();
    putInsRefused();
    putInsOfColumns();
    putInsLet();
    takeOuts();
    takeOutsSmaller();
    takeOutsOfNames();
    takeOutsRefused();
    takeOutsAtTheEnds();
    moves();
    movesOfRanges();
    movesOfNames();
    movesOfAll();
    arguments();
    end();
  }

  private static void putIns() {
    edge("To PUT IN a row at r: what stands in rows from r on (CELLS, LOCKS, CHECKS) goes down by 1");
    Cellweave x = sheet("a4:1 a5:2 a6:3");
    for (int row : new int[] {3, 4, 5}) {
      x.lock(8 * row + 1, true);
      x.check(8 * row + 2, 5, 5);
    }
    due("CELLS that went on", x.putIn(false, 4), 2);
    due("all()", x.all(), "a4:1;a6:2;a7:3");
    StringBuilder b = new StringBuilder();
    for (int row = 3; row <= 7; row++) {
      x.lock(8 * row + 2, false);
      set(x, "c" + (row + 1), "9");
      b.append(x.ofPlace(8 * row + 1, 7)).append(x.ofPlace(8 * row + 2, 8)).append(' ');
    }
    due("LOCKS and CHECKS", b.toString(), "11 00 11 11 00 ");
    edge("PLACES in formulas, corners of ranges and names from r on go with them");
    String[][] all = {{"=a4", "=a4"}, {"=a5", "=a6"}, {"=a6", "=a7"}, {"=a$5", "=a$6"}, {"=$a$6", "=$a$7"}, {"=S(a4:b5)", "=S(a4:b6)"},
        {"=S(b5:a4)", "=S(b6:a4)"}, {"=S(a1:b4)", "=S(a1:b4)"}, {"=S(a5:b9)", "=S(a6:b10)"}, {"=S(a4#)", "=S(a4#)"}, {"=S(a5#)", "=S(a6#)"},
        {"=S(a5)", "=S(a6)"}, {"='a5'", "='a5'"}, {"=O(a4:a5)", "=O(a4:a6)"}, {"=F(a5,a4)", "=F(a6,a4)"}, {"=a18", "=a19"}, {"=a19", "=a20"}};
    for (String[] one : all) {
      Cellweave p = sheet("c1:" + one[0]);
      due(one[0], p.putIn(false, 4) + p.text(2), "0" + one[1]);
    }
    Cellweave n = new Cellweave();
    n.name(0, at("a4"), at("b5"));
    n.name(1, at("b5"), at("b5"));
    n.name(2, at("a4"), at("b4"));
    n.name(3, at("b6"), at("a5"));
    n.putIn(false, 4);
    due("names", n.named(0) + n.named(1) + n.named(2) + n.named(3), "a4:b6b6:b6a4:b4a6:b7");
  }

  private static void putInsAtTheEnds() {
    edge("putIn at the first and the last row and column");
    Cellweave x = sheet("a1:1 a19:2 g1:=a19");
    due("row 0", x.putIn(false, 0) + x.all(), "3a2:1;g2:=a20;a20:2");
    Cellweave y = sheet("a1:1 a19:2 g1:=a19");
    due("row 19", y.putIn(false, 19) + y.all(), "0a1:1;g1:=a19;a19:2");
    due("row 18", y.putIn(false, 18) + y.all(), "1a1:1;g1:=a20;a20:2");
    due("column 0", y.putIn(true, 0) + y.all(), "3b1:1;h1:=b20;b20:2");
    Cellweave z = sheet("a1:1 g2:2");
    due("column 7", z.putIn(true, 7) + z.all(), "0a1:1;g2:2");
    due("column 6", z.putIn(true, 6) + z.all(), "1a1:1;h2:2");
    due("an empty sheet", new Cellweave().putIn(false, 19) + new Cellweave().putIn(true, 7), 0);
  }

  private static void putInsRefused() {
    edge("REFUSED, if in the last row something of this stands, or a PLACE, corner or name is there");
    String[] cells = {"a20:1", "h20:=1", "d20:=''", "a1:=h20", "a1:=$a$20", "a1:=S(a1:b20)", "a1:=S(b20:a1)", "b7:=S(a20#)", "b7:=S(a20)",
        "a1:=O(a20)", "a1:=F(b1,a20:b20)", "a1:=K(1,a1:a2,b3:b20)", "a1:=I(T,1,c20)"};
    for (String cell : cells) {
      Cellweave x = sheet(cell);
      for (int row : new int[] {0, 10, 19}) {
        idle(x, cell + " and row " + row, -9, () -> x.putIn(false, row));
      }
      due(cell + " and a column", x.putIn(true, 7) == -9, cell.contains("h"));
    }
    Cellweave l = new Cellweave();
    l.lock(at("c20"), true);
    idle(l, "a LOCK", -9, () -> l.putIn(false, 19));
    l.lock(at("c20"), false);
    l.check(at("c20"), 3, 3);
    idle(l, "a CHECK", -9, () -> l.putIn(false, 0));
    l.check(at("c20"), 3, 2);
    for (int n = 0; n < 6; n++) {
      l.name(n, at("b3"), at("c20"));
      idle(l, "a name", -9, () -> l.putIn(false, 5));
      l.name(n, -1, 0);
    }
    l.name(4, at("c20"), at("b3"));
    idle(l, "a name the other way", -9, () -> l.putIn(false, 5));
    l.name(4, at("c19"), at("b3"));
    due("a name ahead of it", l.putIn(false, 5) + l.named(4), "0b3:c20");
    Cellweave g = sheet("b19:=a20");
    g.copy(at("b19"), at("b20"));
    g.clear(at("b19"));
    g.copy(at("b20"), 0);
    g.clear(at("b20"));
    due("what is GONE is nowhere", g.text(0) + g.putIn(false, 0), "=?1");
    Cellweave q = sheet("a1:='a20'");
    due("in quotes is no PLACE", q.putIn(false, 0), 1);
    Cellweave s = sheet("a19:1 h19:=O(a18:a19)");
    due("a row ahead of it", s.putIn(false, 10), 2);
    idle(s, "then it stands in the last row", -9, () -> s.putIn(false, 10));
    Cellweave sp = sheet("a1:1 a2:2 h19:=O(a1:a2)");
    due("what a LIST spills there", sp.value(LAST) + sp.putIn(false, 5) + sp.value(LAST), "21#bar");
  }

  private static void putInsOfColumns() {
    edge("Columns likewise (REFUSED)");
    String[] cells = {"h1:1", "a1:=h20", "a1:=$h$1", "a1:=S(a1:h3)", "a1:=S(h1:a3)", "b7:=S(h1#)", "b7:=S(h1)", "a1:=O(h1)"};
    for (String cell : cells) {
      Cellweave x = sheet(cell);
      for (int column : new int[] {0, 4, 7}) {
        idle(x, cell + " and column " + column, -9, () -> x.putIn(true, column));
      }
      due(cell + " and a row", x.putIn(false, 19) == -9, cell.contains("20"));
    }
    Cellweave l = new Cellweave();
    l.lock(at("h3"), true);
    idle(l, "a LOCK", -9, () -> l.putIn(true, 7));
    l.lock(at("h3"), false);
    l.check(at("h3"), 3, 3);
    idle(l, "a CHECK", -9, () -> l.putIn(true, 0));
    l.check(at("h3"), 3, 2);
    for (int n = 0; n < 6; n++) {
      l.name(n, at("h3"), at("h3"));
      idle(l, "a name", -9, () -> l.putIn(true, 5));
      l.name(n, -1, 0);
    }
    l.name(4, at("h3"), at("a20"));
    idle(l, "a name", -9, () -> l.putIn(true, 5));
    idle(l, "a name and a row", -9, () -> l.putIn(false, 5));
    l.name(4, at("g3"), at("a19"));
    due("a name ahead of it", l.putIn(true, 3) + l.putIn(false, 3) + l.named(4), "0a3:h20");
  }

  private static void putInsLet() {
    edge("Columns likewise (what goes)");
    Cellweave x = sheet("c1:1 d2:2 e3:3");
    x.lock(at("c4"), true);
    x.lock(at("d4"), true);
    x.check(at("d2"), 5, 5);
    due("CELLS that went on", x.putIn(true, 3), 2);
    due("all()", x.all(), "c1:1;e2:2;f3:3");
    due("LOCKS", "" + x.ofPlace(at("c4"), 7) + x.ofPlace(at("d4"), 7) + x.ofPlace(at("e4"), 7) + x.house(6), "1012");
    due("the CHECK", x.bad(), "" + at("e2"));
    String[][] all = {{"=c1", "=c1"}, {"=d1", "=e1"}, {"=g1", "=h1"}, {"=$d1", "=$e1"}, {"=S(c1:d2)", "=S(c1:e2)"}, {"=S(d2:c1)", "=S(e2:c1)"},
        {"=S(a1:c4)", "=S(a1:c4)"}, {"=S(d1:g4)", "=S(e1:h4)"}, {"=S(d1#)", "=S(e1#)"}, {"=U(c1:d1)", "=U(c1:e1)"}};
    for (String[] one : all) {
      Cellweave p = sheet("a9:" + one[0]);
      due(one[0], p.putIn(true, 3) + p.text(at("a9")), "0" + one[1]);
    }
    Cellweave n = new Cellweave();
    n.name(0, at("c4"), at("d5"));
    n.name(1, at("d4"), at("d5"));
    n.name(2, at("c4"), at("a5"));
    n.putIn(true, 3);
    due("names", n.named(0) + n.named(1) + n.named(2), "c4:e5e4:e5a4:c5");
    edge("a LIST may be BARRED by the sheet's end then, or no more");
    Cellweave b = sheet("a1:1 a2:2 a3:3 b17:=O(a1:a3)");
    due("ahead", column(b, "b17", 3), "1,2,3");
    b.putIn(false, 9);
    due("behind", column(b, "b18", 3), "1,2,3");
    b.putIn(false, 9);
    due("BARRED", b.value(at("b19")), "#bar");
    b.takeOut(false, 9);
    due("no more", column(b, "b18", 3), "1,2,3");
  }

  private static void takeOuts() {
    edge("To TAKE OUT the row r: what stands there goes; all from r + 1 on goes up by 1; a PLACE at r is GONE");
    Cellweave x = sheet("a4:1 a5:2 b5:2 a6:3");
    for (int row : new int[] {3, 4, 5}) {
      x.check(8 * row + 2, 5, 5);
    }
    x.lock(at("d4"), true);
    x.lock(at("d6"), true);
    due("CELLS that are gone", x.takeOut(false, 4), 2);
    due("all()", x.all(), "a4:1;a5:3");
    due("LOCKS", "" + x.ofPlace(at("d4"), 7) + x.ofPlace(at("d5"), 7) + x.ofPlace(at("d6"), 7), "110");
    x.lock(at("d5"), false);
    StringBuilder b = new StringBuilder();
    for (int row = 3; row <= 6; row++) {
      set(x, "c" + (row + 1), "1");
      b.append(x.ofPlace(8 * row + 2, 8));
    }
    due("CHECKS", b.toString(), "1100");
    String[][] all = {{"=a4", "=a4"}, {"=a5", "=?"}, {"=a6", "=a5"}, {"=$a$5", "=?"}, {"=$a$6", "=$a$5"}, {"=a$20", "=a$19"}, {"=S(a5)", "=S(?)"},
        {"=S(a6)", "=S(a5)"}, {"=S(a5#)", "=S(?)"}, {"=S(a6#)", "=S(a5#)"}, {"=S(a4#)", "=S(a4#)"}, {"='a5'", "='a5'"}, {"=O(a5#)", "=O(?)"},
        {"=F(a5,a6)", "=F(?,a5)"}, {"=K(a5,a4,a5)", "=K(?,a4,?)"}, {"=-a5", "=-?"}, {"=a5+a4", "=?+a4"}};
    for (String[] one : all) {
      Cellweave p = sheet("c1:" + one[0]);
      due(one[0], p.takeOut(false, 4) + p.text(2), "0" + one[1]);
      due(one[0] + ": isSound()", p.isSound(), true);
    }
    edge("\"#gone\", if it is GONE");
    Cellweave g = sheet("a5:1 c1:=a5 d1:=S(a5) e1:=C(a5#,1) f1:=O(a5) g1:=N(a5) h1:=I(T,5,a5)");
    g.takeOut(false, 4);
    due("values", g.value(2) + g.value(3) + g.value(4) + g.value(5) + g.value(6) + g.value(7), "#gone#gone#gone#gonetrue5");
    g.undo();
    due("UNDONE", g.value(2) + g.value(3) + g.value(4) + g.value(5) + g.value(6) + g.value(7), "1111false5");
  }

  private static void takeOutsSmaller() {
    edge("a range between corners gets smaller by it (GONE, if it was of that row alone)");
    String[][] rows = {{"=S(a5:b5)", "=S(?)"}, {"=S(b5:a5)", "=S(?)"}, {"=S(a5:a5)", "=S(?)"}, {"=S(a5:b6)", "=S(a5:b5)"}, {"=S(a4:b5)", "=S(a4:b4)"},
        {"=S(b6:a5)", "=S(b5:a5)"}, {"=S(b5:a4)", "=S(b4:a4)"}, {"=S(a5:b9)", "=S(a5:b8)"}, {"=S(a1:b5)", "=S(a1:b4)"}, {"=S(a4:b6)", "=S(a4:b5)"},
        {"=S(b6:a4)", "=S(b5:a4)"}, {"=S(a1:b4)", "=S(a1:b4)"}, {"=S(a6:b9)", "=S(a5:b8)"}, {"=S(a$5:b$6)", "=S(a$5:b$5)"},
        {"=S($a4:b$5)", "=S($a4:b$4)"}, {"=O(a5:h5)", "=O(?)"}, {"=F(a5:b5,a4:b5)", "=F(?,a4:b4)"}, {"=S(b5:a6)", "=S(b5:a5)"},
        {"=S(a6:b5)", "=S(a5:b5)"}, {"=S(b4:a5)", "=S(b4:a4)"}};
    for (String[] one : rows) {
      Cellweave p = sheet("c1:" + one[0]);
      p.takeOut(false, 4);
      due(one[0], p.text(2), one[1]);
    }
    edge("Columns likewise (smaller, GONE)");
    String[][] columns = {{"=S(c1:c9)", "=S(?)"}, {"=S(c9:c1)", "=S(?)"}, {"=S(c1:d9)", "=S(c1:c9)"}, {"=S(b1:c9)", "=S(b1:b9)"}, {"=S(d9:c1)", "=S(c9:c1)"},
        {"=S(c9:b1)", "=S(b9:b1)"}, {"=S(a1:h9)", "=S(a1:g9)"}, {"=S($c1:$d9)", "=S($c1:$c9)"}, {"=S(d1:h9)", "=S(c1:g9)"}, {"=S(a1:b9)", "=S(a1:b9)"},
        {"=c1", "=?"}, {"=d1", "=c1"}, {"=b1", "=b1"}, {"=S(c1#)", "=S(?)"}, {"=S(d1#)", "=S(c1#)"}, {"=$c$1+h1", "=?+g1"}, {"=S(c1)", "=S(?)"}};
    for (String[] one : columns) {
      Cellweave p = sheet("a12:" + one[0]);
      p.takeOut(true, 2);
      due(one[0], p.text(at("a12")), one[1]);
    }
    edge("at the edges of the sheet");
    String[][] edges = {{"=S(a1:b20)", "=S(a1:b19)"}, {"=S(b20:a1)", "=S(b19:a1)"}, {"=a20", "=a19"}, {"=S(a1:b1)", "=S(?)"}, {"=S(a1:b2)", "=S(a1:b1)"}};
    for (String[] one : edges) {
      Cellweave p = sheet("c9:" + one[0]);
      p.takeOut(false, 0);
      due(one[0] + " without the first row", p.text(at("c8")), one[1]);
    }
    String[][] lasts = {{"=S(a1:b20)", "=S(a1:b19)"}, {"=S(b20:a1)", "=S(b19:a1)"}, {"=a20", "=?"}, {"=S(a20:b20)", "=S(?)"}, {"=S(a19:b20)", "=S(a19:b19)"}};
    for (String[] one : lasts) {
      Cellweave p = sheet("c9:" + one[0]);
      p.takeOut(false, 19);
      due(one[0] + " without the last row", p.text(at("c9")), one[1]);
    }
  }

  private static void takeOutsOfNames() {
    edge("a name gets smaller by it (not told any more, if it was of that row alone)");
    Cellweave x = sheet("h1:=S(n0) h2:=S(n1)");
    x.name(0, at("a5"), at("c5"));
    x.name(1, at("a5"), at("c6"));
    x.name(2, at("c5"), at("a4"));
    x.name(3, at("a1"), at("h20"));
    x.name(4, at("a6"), at("b7"));
    x.name(5, at("a4"), at("a4"));
    x.takeOut(false, 4);
    due("names", x.named(0) + "," + x.named(1) + "," + x.named(2) + "," + x.named(3) + "," + x.named(4) + "," + x.named(5),
        ",a5:c5,a4:c4,a1:h19,a5:b6,a4:a4");
    due("it shows", x.value(at("h1")) + x.value(at("h2")), "#name0");
    due("house(5)", x.house(5), 5);
    x.takeOut(true, 0);
    due("without a column", x.named(1) + "," + x.named(2) + "," + x.named(3) + "," + x.named(4) + "," + x.named(5), "a5:b5,a4:b4,a1:g19,a5:a6,");
    x.undo();
    x.undo();
    due("UNDONE", x.named(0) + x.named(5) + x.house(5), "a5:c5a4:a46");
  }

  private static void takeOutsRefused() {
    edge("takeOut: REFUSED, if a LOCKED PLACE is there");
    Cellweave x = sheet("a5:1 h6:2");
    x.lock(at("a5"), true);
    x.lock(at("h9"), true);
    idle(x, "a LOCKED CELL", -9, () -> x.takeOut(false, 4));
    idle(x, "a LOCKED EMPTY PLACE", -9, () -> x.takeOut(false, 8));
    idle(x, "the first column", -9, () -> x.takeOut(true, 0));
    idle(x, "the last column", -9, () -> x.takeOut(true, 7));
    due("the row ahead", x.takeOut(false, 3), 0);
    due("the row behind", x.takeOut(false, 4), 1);
    due("another column", x.takeOut(true, 6), 0);
    due("LOCKS", "" + x.house(6) + x.ofPlace(at("a4"), 7) + x.ofPlace(at("g7"), 7), "211");
    x.check(at("b2"), 1, 1);
    due("a CHECK goes", x.takeOut(false, 1), 0);
    set(x, "b2", "5");
    due("it is gone", x.bad(), "");
  }

  private static void takeOutsAtTheEnds() {
    edge("takeOut of the first and the last row and column");
    Cellweave x = sheet("a1:1 h1:2 a20:3 h20:4 d10:5");
    x.lock(at("d10"), true);
    due("the last row", x.takeOut(false, 19) + x.all(), "2a1:1;h1:2;d10:5");
    due("the first row", x.takeOut(false, 0) + x.all(), "2d9:5");
    x.undo();
    due("the last column", x.takeOut(true, 7) + x.all(), "1a1:1;d10:5");
    due("the first column", x.takeOut(true, 0) + x.all(), "1c10:5");
    due("the LOCK", x.ofPlace(at("c10"), 7) + x.house(6), 2);
    due("an empty sheet", new Cellweave().takeOut(false, 19), 0);
    Cellweave b = sheet("a1:1 a2:2 b1:=O(a1:a2) b2:5");
    b.takeOut(false, 1);
    due("a LIST that was BARRED", b.text(1) + b.value(1), "=O(a1:a1)1");
  }

  private static void moves() {
    edge("To MOVE a row from r to s: all of row r stands in row s then, the rows between go by 1 the other way");
    Cellweave down = sheet("a1:1 a2:2 a3:3 a4:4 a5:5");
    due("down", down.move(false, 1, 3) + down.all(), "3a1:1;a2:3;a3:4;a4:2;a5:5");
    Cellweave up = sheet("a1:1 a2:2 a3:3 a4:4 a5:5");
    due("up", up.move(false, 3, 1) + up.all(), "3a1:1;a2:4;a3:2;a4:3;a5:5");
    due("to the next one", up.move(false, 0, 1) + up.all(), "2a1:4;a2:1;a3:2;a4:3;a5:5");
    due("to itself", up.move(false, 4, 4) + up.all(), "0a1:4;a2:1;a3:2;a4:3;a5:5");
    due("an empty row", up.move(false, 10, 12), 0);
    due("an empty row ahead", up.move(false, 10, 0) + up.all(), "5a2:4;a3:1;a4:2;a5:3;a6:5");
    Cellweave ends = sheet("a1:1 h20:2 b10:3");
    due("the first one to the end", ends.move(false, 0, 19) + ends.all(), "3b9:3;h19:2;a20:1");
    due("the last one to the front", ends.move(false, 19, 0) + ends.all(), "3a1:1;b10:3;h20:2");
    due("the first column to the end", ends.move(true, 0, 7) + ends.all(), "3h1:1;a10:3;g20:2");
    due("the last column to the front", ends.move(true, 7, 0) + ends.all(), "3a1:1;b10:3;h20:2");
    due("a column to the next one", ends.move(true, 1, 2) + ends.all(), "1a1:1;c10:3;h20:2");
    due("a column to itself", ends.move(true, 7, 7), 0);
    Cellweave full = full();
    due("60 CELLS", full.move(false, 0, 19), 60);
    due("CELLS", full.house(0), 60);
  }

  private static void movesOfRanges() {
    edge("each PLACE in formulas, each corner of a range and of a name goes with its row");
    String[][] down = {{"=a2", "=a4"}, {"=a3", "=a2"}, {"=a4", "=a3"}, {"=a1", "=a1"}, {"=a5", "=a5"}, {"=$a$2", "=$a$4"}, {"=S(a2:b3)", "=S(a4:b2)"},
        {"=S(a1:b2)", "=S(a1:b4)"}, {"=S(a2:b5)", "=S(a4:b5)"}, {"=S(a3:b4)", "=S(a2:b3)"}, {"=S(a2:b2)", "=S(a4:b4)"}, {"=S(a2#)", "=S(a4#)"},
        {"=S(a1:b5)", "=S(a1:b5)"}, {"=S(b4:a2)", "=S(b3:a4)"}, {"=O(a2:a4)", "=O(a4:a3)"}, {"='a2'", "='a2'"}};
    for (String[] one : down) {
      Cellweave p = sheet("h9:" + one[0]);
      due(one[0], p.move(false, 1, 3) + p.text(at("h9")), "0" + one[1]);
    }
    String[][] left = {{"=c1", "=a1"}, {"=a1", "=b1"}, {"=b1", "=c1"}, {"=d1", "=d1"}, {"=S(a1:c2)", "=S(b1:a2)"}, {"=S($c$1:d2)", "=S($a$1:d2)"},
        {"=S(c1#)", "=S(a1#)"}, {"=S(b1:a2)", "=S(c1:b2)"}};
    for (String[] one : left) {
      Cellweave p = sheet("h9:" + one[0]);
      due(one[0], p.move(true, 2, 0) + p.text(at("h9")), "0" + one[1]);
    }
    Cellweave v = sheet("a1:1 a2:10 a3:100 b1:=S(a1:a2)&a3");
    v.move(false, 0, 2);
    due("what is between the corners then", v.text(at("b3")) + v.value(at("b3")), "=S(a3:a1)&a2111100");
    v.undo();
    v.move(false, 2, 1);
    due("what is between the corners then", v.text(1) + v.value(1), "=S(a1:a3)&a2111100");
  }

  private static void movesOfNames() {
    edge("MOVE: names, LOCKS and CHECKS go with their row");
    Cellweave n = new Cellweave();
    n.name(0, at("a2"), at("c3"));
    n.name(1, at("b1"), at("c5"));
    n.name(2, at("a2"), at("c4"));
    n.name(3, at("b4"), at("b4"));
    n.move(false, 1, 3);
    due("names", n.named(0) + "," + n.named(1) + "," + n.named(2) + "," + n.named(3), "a2:c4,b1:c5,a3:c4,b3:b3");
    n.move(true, 0, 7);
    due("names", n.named(0) + "," + n.named(1) + "," + n.named(2) + "," + n.named(3), "b2:h4,a1:b5,b3:h4,a3:a3");
  }

  private static void movesOfAll() {
    edge("MOVE: all of row r stands in row s then (LOCKS do not hinder)");
    Cellweave x = sheet("a1:9 a2:9 a3:9");
    x.lock(0, true);
    x.check(8, 5, 5);
    x.lock(17, true);
    due("move()", x.move(false, 0, 2), 3);
    due("LOCKS", "" + x.ofPlace(16, 7) + x.ofPlace(0, 7) + x.ofPlace(9, 7) + x.house(6), "1012");
    due("the CHECK", x.bad(), "0");
    due("move() of a column", x.move(true, 0, 1), 3);
    due("LOCKS", "" + x.ofPlace(17, 7) + x.ofPlace(8, 7) + x.house(6), "112");
    due("the CHECK", x.bad(), "1");
  }

  private static void arguments() {
    edge("putIn, takeOut: if at is not 0 to 19 (of a column 0 to 7)");
    Cellweave x = sheet("a1:1");
    for (int row : new int[] {-1, 20, Integer.MIN_VALUE, Integer.MAX_VALUE}) {
      bad(x, "putIn(false, " + row + ")", () -> x.putIn(false, row));
      bad(x, "takeOut(false, " + row + ")", () -> x.takeOut(false, row));
      edge("move: if from or to is not 0 to 19 (of a column 0 to 7)");
      bad(x, "move(false, " + row + ", 0)", () -> x.move(false, row, 0));
      bad(x, "move(false, 0, " + row + ")", () -> x.move(false, 0, row));
      bad(x, "move(false, " + row + ", " + row + ")", () -> x.move(false, row, row));
    }
    for (int column : new int[] {-1, 8, 19, Integer.MIN_VALUE, Integer.MAX_VALUE}) {
      bad(x, "putIn(true, " + column + ")", () -> x.putIn(true, column));
      bad(x, "takeOut(true, " + column + ")", () -> x.takeOut(true, column));
      bad(x, "move(true, " + column + ", 0)", () -> x.move(true, column, 0));
      bad(x, "move(true, 0, " + column + ")", () -> x.move(true, 0, column));
    }
    due("row 8", x.putIn(false, 8) + x.takeOut(false, 8) + x.move(false, 8, 19), 0);
  }
}
