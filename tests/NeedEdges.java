/** Edges of section 3: what a formula READS and NEEDS, RINGS, LEVELS, and what is RECKONED. */
public final class NeedEdges extends Bench {
  public static void main(String[] args) {
    reads();
    notLookedAt();
    hashReads();
    stands();
    standsBelowLists();
    leans();
    rings();
    ringsOfLists();
    circles();
    levels();
    longChains();
    emptyOnes();
    written();
    writtenAll();
    writtenNone();
    readAnother();
    hashCounts();
    bars();
    circlesReckoned();
    onlyTried();
    listsAreFormulas();
    end();
  }

  private static String needs(String cells, String formula) {
    Cellweave x = sheet(cells);
    set(x, "h20", formula);
    return x.needs(LAST, false);
  }

  private static void reads() {
    edge("A formula READS all PLACES that stand in it, and those of its ranges between two corners and of names");
    String cells = "a1:1 b1:2 a2:3 b2:4 c3:5";
    due("PLACES", needs(cells, "=a1+$b$2+a9"), "0 9");
    due("one PLACE twice", needs(cells, "=a1+a1"), "0");
    due("the corners of the sheet", needs("a1:1 h1:2 a20:3", "=S(a1:h19)+a20"), "0 7 152");
    due("between two corners", needs(cells, "=S(b2:a1)"), "0 1 8 9");
    due("between the other corners", needs(cells, "=S(a2:b1)"), "0 1 8 9");
    due("one row", needs(cells, "=S(a1:h1)"), "0 1");
    due("the edge of a range", needs(cells, "=S(b2:c9)"), "9 18");
    due("a PLACE alone", needs(cells, "=S(b2)"), "9");
    due("none", needs(cells, "=1+'a1'"), "");
    due("a name that is not told", needs(cells, "=S(n0)"), "");
    Cellweave x = sheet(cells);
    x.name(5, at("a2"), at("c3"));
    set(x, "h20", "=C(n5,a1)");
    due("a name", x.needs(LAST, false), "0 8 9 18");
    x.name(5, at("a1"), at("a1"));
    due("a name told anew", x.needs(LAST, false), "0");
    x.name(5, -1, 0);
    due("told no more", x.needs(LAST, false), "0");
    Cellweave y = sheet(cells + " h20:=S(n0)");
    y.name(1, 0, 1);
    due("another name", y.needs(LAST, false), "");
    y.name(0, 0, 1);
    due("that name", y.needs(LAST, false), "0 1");
    Cellweave g = sheet("a1:1 b2:=a1+S(a1:b1)");
    g.copy(at("b2"), at("b1"));
    due("what is GONE", g.text(1) + g.needs(1, false), "=?+S(?)");
  }

  private static void notLookedAt() {
    edge("(also those that are not looked at)");
    String cells = "a1:1 a2:2 a3:3";
    due("I", needs(cells, "=I(T,a1,a2)"), "0 8");
    due("F", needs(cells, "=F(a1:a2,a3)"), "0 8 16");
    due("K", needs(cells, "=K(1,a1,a2:a3)"), "0 8 16");
    due("behind a FAULT", needs(cells, "=1/0+a1"), "0");
    Cellweave x = sheet("a1:=I(T,1,a1)");
    due("a RING by what is not looked at", x.value(0) + x.ofPlace(0, 3), "#circle1");
    Cellweave y = sheet("a1:=C(n0,a1)");
    due("a RING behind a FAULT", y.value(0), "#circle");
  }

  private static void hashReads() {
    edge("of a range with \"#\" that PLACE and all below it in its column");
    String cells = "a1:1 a2:2 b1:=O(a1:a2) b5:5 b20:6 c2:7";
    due("all below", needs(cells, "=S(b1#)"), "1 33 153");
    due("from the middle", needs(cells, "=S(b5#)"), "33 153");
    due("above is not", needs(cells, "=S(b6#)"), "153");
    due("the last one", needs(cells, "=S(b20#)"), "153");
    due("another column", needs(cells, "=S(c1#)"), "10");
    Cellweave x = sheet("a1:1 a2:2 a3:=S(a1#)");
    due("itself below", x.value(16) + x.ring(16), "#circle16");
    Cellweave y = sheet("a1:1 a2:2 a3:=S(a4#)");
    due("itself above", y.value(16), "0");
  }

  private static void stands() {
    edge("A READ PLACE stands on a CELL: that there; or, if it is EMPTY, the nearest CELL above it in its column, if that is a LIST");
    String cells = "a1:1 a2:2 b1:=O(a1:a2) ";
    due("that there", needs(cells, "=b1"), "1");
    due("where it spills", needs(cells, "=b2"), "1");
    due("behind where it spills", needs(cells, "=b3"), "1");
    due("at the end", needs(cells, "=b20"), "1");
    due("a constant above", needs(cells, "=a3"), "");
    due("another column", needs(cells, "=c2"), "");
    due("nothing above", needs(cells + "b9:1", "=b8+a9"), "1");
    due("the nearest one is a constant", needs(cells + "b4:1", "=b6"), "");
    due("the nearest one is a formula", needs(cells + "b4:=a1", "=b6"), "");
    due("the nearest one is a LIST", needs(cells + "b4:=O(a1)", "=b6"), "25");
    due("a constant there", needs(cells + "b4:1", "=b4"), "25");
    due("a LIST that is BARRED", needs(cells + "b2:=O(a1)", "=b9"), "9");
    due("above is not below", needs("a1:1 b5:=O(a1)", "=b4"), "");
    due("the first row", needs("a1:1 b2:=O(a1)", "=b1"), "");
    due("the column ahead", needs("h1:=O(a3)", "=a2"), "");
    for (int c = 0; c < 8; c++) {
      String letter = "" + (char) ('a' + c);
      String list = letter + "1:=U(" + letter + "9:" + letter + "10) " + letter + "9:5 " + letter + "10:6";
      due("a LIST at " + letter + "1, the second row", needs(list, "=" + letter + "2"), "" + c);
      due("it shows", sheet(list).ofPlace(c, 10) + "," + sheet(list).value(c + 8) + "," + sheet(list).source(c + 8), "2,6," + c);
    }
  }

  private static void standsBelowLists() {
    edge("A CELL NEEDS all CELLS on which what it READS stands (each once)");
    Cellweave x = sheet("a1:1 a2:2 b1:=O(a1:a2) c1:=S(b1:b9) d1:=b2+b3+b4");
    due("all on one LIST", x.needs(2, false) + "," + x.needs(3, false) + "," + x.ofPlace(2, 4) + x.ofPlace(3, 4), "1,1,11");
    due("those that NEED it", x.needs(1, true) + "," + x.ofPlace(1, 5), "2 3,2");
    due("an EMPTY one is NEEDED by none", x.needs(9, true) + x.ofPlace(9, 5), "0");
    due("nothing NEEDS a formula", x.needs(2, true) + x.ofPlace(2, 5), "0");
    due("a constant NEEDS none", x.needs(0, false) + x.ofPlace(0, 4), "0");
  }

  private static void leans() {
    edge("It LEANS ON a CELL, if it NEEDS that, or NEEDS one that LEANS ON it");
    Cellweave x = sheet("a1:1 b1:=a1 c1:=b1 d1:=c1+a1 e1:5 f1:=e1");
    StringBuilder b = new StringBuilder();
    for (int p = 0; p < 6; p++) {
      b.append(x.ofPlace(p, 6)).append(x.ofPlace(p, 5)).append(x.ofPlace(p, 4)).append(' ');
    }
    due("how many LEAN ON it, NEED it, it NEEDS", b.toString(), "320 211 111 002 110 001 ");
    Cellweave y = sheet("a9:=b1 b1:=h3 h3:=a2 a2:=g7 g7:5");
    due("backwards, too", "" + y.ofPlace(at("g7"), 6) + y.ofPlace(at("h3"), 6), "42");
  }

  private static void rings() {
    edge("It lies on a RING, if it LEANS ON itself");
    Cellweave one = sheet("a1:=a1");
    due("of one", one.ring(0) + one.ofPlace(0, 3) + one.house(3) + one.value(0), "011#circle");
    due("itself", one.needs(0, true) + one.needs(0, false) + one.ofPlace(0, 4) + one.ofPlace(0, 5) + one.ofPlace(0, 6), "00111");
    Cellweave two = sheet("a1:=b1 b1:=a1");
    due("of two", two.ring(0) + "," + two.ring(1) + "," + two.house(3), "0 1,0 1,2");
    Cellweave on = sheet("a1:=b1 b1:=a1 c1:=a1 d1:=c1 e1:1 a2:=e1+a1");
    due("what LEANS ON it lies on none", on.ring(2) + on.ring(3) + on.ofPlace(2, 3) + on.house(3), "02");
    due("how many LEAN ON it", on.ofPlace(0, 6), 5);
    due("what it LEANS ON lies on none", on.ring(4) + on.ofPlace(4, 3), "0");
    edge("ring: all CELLS that LEAN ON it and on which it LEANS (with itself, if it lies on a RING)");
    Cellweave eight = sheet("a1:=b1 b1:=a1+c1 c1:=d1 d1:=c1 e1:=e1+a1");
    due("two RINGS, one LEANS ON the other", eight.ring(0) + "," + eight.ring(2) + "," + eight.ring(4), "0 1,2 3,4");
    Cellweave joint = sheet("a1:=b1+c1 b1:=a1 c1:=a1 d1:=b1");
    due("two RINGS with one CELL", joint.ring(0) + "," + joint.ring(1) + "," + joint.ring(3), "0 1 2,0 1 2,");
    Cellweave x = new Cellweave();
    for (int p = 0; p < 60; p++) {
      type(x, "=" + Model.shown(p < 59 ? p + 1 : 0));
      x.put(p);
    }
    due("of 60", "" + x.house(3) + "," + x.ofPlace(59, 6) + "," + x.ring(30).split(" ").length + "," + x.isSound(), "60,60,60,true");
    x.clear(59);
    due("cut through", "" + x.house(3) + "," + x.house(4) + "," + x.value(0), "0,58,0");
  }

  private static void ringsOfLists() {
    edge("All that lie on a RING, and all that LEAN ON such, show \"#circle\" (a LIST, too)");
    due("itself", shows("", "=O(h20)"), "#circle");
    Cellweave x = sheet("a1:1 b1:=O(a1:b1)");
    due("its own PLACE", x.value(1) + x.ofPlace(1, 10) + x.ofPlace(1, 2), "#circle0-1");
    Cellweave y = sheet("a1:1 b1:=O(b5:b9)");
    due("the EMPTY PLACES below it", y.value(1) + y.ring(1), "#circle1");
    Cellweave w = sheet("a1:1 b1:=O(b5:b9) b3:1");
    due("a CELL between", w.value(1) + w.ring(1), "#none");
    Cellweave z = sheet("a2:=b2 b1:=O(a1:a3)");
    due("what it spills to", z.value(8) + z.value(1) + z.value(9) + "," + z.ring(1), "#circle#circle,1 8");
    Cellweave l = sheet("a1:=a1 b1:=O(a1:a9) c1:=b5 d1:=O(c1) e1:1");
    due("a LIST that LEANS ON it", l.value(1) + l.value(2) + l.value(3) + l.ofPlace(1, 10) + l.source(9), "#circle#circle#circle0-1");
    due("an EMPTY PLACE below such a LIST", l.value(9) + l.ofPlace(9, 0), "0");
  }

  private static void circles() {
    edge("all that LEAN ON such, show \"#circle\"");
    Cellweave x = sheet("a1:=a1 b1:=N(a1) c1:=I(T,1,a1) d1:=C(a1:a2,5) e1:=K(1/0,a1,a1) f1:=S(n0)+a1 g1:=N(b1) h1:7");
    StringBuilder b = new StringBuilder();
    for (int p = 0; p < 8; p++) {
      b.append(x.value(p)).append(x.ofPlace(p, 2)).append(' ');
    }
    due("values and LEVELS", b.toString(),
        "#circle-1 #circle-1 #circle-1 #circle-1 #circle-1 #circle-1 #circle-1 70 ");
    due("house(2), house(3)", x.house(2) + "," + x.house(3), "7,1");
    x.clear(0);
    due("none any more", x.value(1) + x.value(2) + x.value(3) + x.value(4) + x.value(5) + x.value(6), "false10#zero#namefalse");
  }

  private static void levels() {
    edge("LEVEL of a CELL: 0, if it NEEDS none, else 1 more than the greatest LEVEL of those that it NEEDS; NONE if it shows \"#circle\"");
    Cellweave x = sheet("a1:1 b1:=1+1 c1:=a1 d1:=c1+a1 e1:=d1+b1 f1:=c9 g1:=a1+b1 h1:=h1 a2:=h1 b2:=a2+e1");
    StringBuilder b = new StringBuilder();
    for (int p = 0; p < 10; p++) {
      b.append(x.ofPlace(p, 2)).append(' ');
    }
    due("LEVELS", b.toString(), "0 0 1 2 3 0 1 -1 -1 -1 ");
    due("0 of an EMPTY one", x.ofPlace(50, 2), 0);
    due("the greatest", x.house(4), 3);
    edge("house: 4 the greatest LEVEL (NONE without)");
    due("of no CELLS", new Cellweave().house(4), -1);
    due("of a RING alone", sheet("a1:=a1 b1:=a1").house(4), -1);
    due("of one constant", sheet("a1:1 b1:=b1").house(4), 0);
    Cellweave l = sheet("a1:1 b1:=O(a1:a2) c1:=b5");
    due("LEVEL by a LIST above", "" + l.ofPlace(1, 2) + l.ofPlace(2, 2) + l.ofPlace(9, 2), "120");
  }

  private static void longChains() {
    edge("LEVELS of a chain of 60");
    Cellweave x = sheet("a1:1 h8:1");
    x.clear(at("h8"));
    for (int p = 1; p < 60; p++) {
      type(x, "=" + Model.shown(p - 1) + "+1");
      x.put(p);
    }
    due("the greatest", x.house(4) + "," + x.value(59) + "," + x.ofPlace(0, 6), "59,60,59");
    set(x, "a1", "2");
    due("all are RECKONED", x.reckoned().split(" ").length + "," + x.value(59), "59,61");
    Cellweave y = sheet("d8:1");
    for (int p = 58; p >= 0; p--) {
      type(y, "=" + Model.shown(p + 1) + "+1");
      y.put(p);
    }
    due("the other way", y.house(4) + "," + y.value(0) + "," + y.isSound(), "59,60,true");
  }

  private static void emptyOnes() {
    edge("ofPlace: of an EMPTY one 0 of 4 to 6 (and LEVEL 0)");
    Cellweave x = sheet("a1:1 a2:2 b1:=O(a1:a2) c1:=b2+d9");
    for (String empty : new String[] {"b2", "d9", "h20"}) {
      StringBuilder b = new StringBuilder();
      for (int what = 1; what <= 6; what++) {
        b.append(x.ofPlace(at(empty), what));
      }
      due(empty, b.toString(), "000000");
      due("needs", x.needs(at(empty), true) + x.needs(at(empty), false) + x.ring(at(empty)), "");
    }
  }

  private static void written() {
    edge("WRITTEN by an EDIT: by put, clear, goal its PLACE; by copy, fill, goOn those that get something");
    Cellweave x = sheet("a1:1 b1:=1+1 c1:=b1 d1:=a1");
    set(x, "b1", "=1+1");
    due("put() of the same", x.reckoned(), "1");
    set(x, "b1", "=3-1");
    due("put() of an ALIKE one", x.reckoned(), "1");
    set(x, "b1", "=4-1");
    due("put() of another one", x.reckoned(), "1 2");
    due("copy()", x.copy(1, 9), 1);
    due("reckoned()", x.reckoned(), "9");
    due("copy() to itself", x.copy(2, 2), 1);
    due("reckoned()", x.reckoned(), "2");
    due("copy() of a constant", x.copy(0, 20), 0);
    due("fill()", x.fill(1, 1, 17), 2);
    due("reckoned()", x.reckoned(), "9 17");
    due("fill() of none", x.fill(1, 1, 1), 0);
    due("reckoned()", x.reckoned(), "");
    due("clear()", x.clear(9), 0);
    due("goal()", x.goal(0, 3, 0, 5, 4), 4);
    due("reckoned()", x.reckoned(), "3");
    due("goal() of the same", x.goal(0, 3, 0, 5, 4), 4);
    due("reckoned()", x.reckoned(), "");
    Cellweave g = sheet("a1:1 a2:2 b1:=a3 c1:=a4 d1:=a9 a4:7");
    due("goOn()", g.goOn(0, 3), "5");
    due("reckoned()", g.reckoned(), "1 2");
    due("goOn() again", g.goOn(0, 3), "5");
    due("reckoned()", g.reckoned(), "");
    Cellweave c = sheet("b1:=a1 a1:5");
    due("clear()", c.clear(0), 1);
    due("reckoned()", c.reckoned(), "1");
    due("clear() of a formula", c.clear(1), 0);
  }

  private static Cellweave four() {
    return sheet("a1:1 b1:=a1 c1:=5 d1:=O(a1) e1:=e1 f1:=S(n3)");
  }

  private static void writtenAll() {
    edge("WRITTEN: by all others, and by undo and redo, every PLACE");
    Deed[] deeds = {x -> x.move(false, 3, 3), x -> x.sort(5, 6, 0), x -> x.name(0, -1, 0), x -> x.name(1, 5, 5), x -> x.putIn(false, 10),
        x -> x.takeOut(false, 15), x -> x.putIn(true, 7), x -> x.takeOut(true, 7), x -> x.move(true, 6, 7), x -> x.sort(5, 5, 5)};
    for (int i = 0; i < deeds.length; i++) {
      Cellweave x = four();
      int ever = x.house(10);
      deeds[i].on(x);
      due("reckoned() behind deed " + i, x.reckoned(), "1 2 3 5");
      due("ever", x.house(10), ever + 4);
      x.lock(LAST, true);
      due("reckoned() behind lock()", x.reckoned(), "");
      x.undo();
      due("reckoned() behind undo()", x.reckoned(), "1 2 3 5");
      due("ever", x.house(10), ever + 8);
      x.redo();
      due("reckoned() behind redo()", x.reckoned(), "1 2 3 5");
      due("ever", x.house(10), ever + 12);
      due("ofPlace() of 9", "" + x.ofPlace(0, 9) + x.ofPlace(1, 9) + x.ofPlace(3, 9) + x.ofPlace(4, 9), "0110");
    }
    Cellweave x = four();
    x.keep(0);
    x.back(0);
    due("reckoned() behind back()", x.reckoned(), "1 2 3 5");
    set(x, "h9", "1");
    due("reckoned() behind put()", x.reckoned(), "");
    x.join(0, 0);
    due("reckoned() behind join()", x.reckoned(), "1 2 3 5");
  }

  private static void writtenNone() {
    edge("WRITTEN: by lock, check none");
    Cellweave x = four();
    x.move(false, 9, 9);
    x.lock(1, true);
    due("lock()", x.reckoned(), "");
    x.move(false, 9, 9);
    x.lock(1, false);
    due("lock() no more", x.reckoned(), "");
    x.move(false, 9, 9);
    x.check(1, 5, 9);
    due("check()", x.reckoned() + x.ofPlace(1, 9), "0");
    edge("RECKONED by the last EDIT: what is no EDIT leaves it");
    x.move(false, 9, 9);
    x.keep(0);
    x.open();
    x.close();
    x.knock();
    type(x, "=)");
    x.put(0);
    x.lock(0, true);
    x.move(false, 9, 9);
    x.clear(0);
    due("reckoned()", x.reckoned(), "1 2 3 5");
  }

  private static void readAnother() {
    edge("RECKONED: READ a PLACE that shows another VALUE (not ALIKE) than ahead of it");
    Cellweave x = sheet("a1:1 b1:=a1*0 c1:=b1+1 d1:=S(a1:a9) e1:=d1 f1:=I(T,5,a1) g1:=C(n0,1)");
    set(x, "a1", "2");
    due("another one", x.reckoned(), "1 3 4 5");
    set(x, "a1", "4/2");
    due("an ALIKE one", x.reckoned(), "");
    set(x, "a1", "=2");
    due("an ALIKE one of a formula", x.reckoned(), "0");
    set(x, "a1", "=2&''");
    due("another kind that is shown the same", x.reckoned(), "0 1 2 3 4 5");
    x.clear(0);
    due("EMPTY", x.reckoned(), "1 2 3 5");
    set(x, "a9", "=''");
    due("a text in the range", x.reckoned(), "3 64");
    x.name(0, 0, 0);
    set(x, "a1", "1");
    due("by a name", x.reckoned(), "1 3 4 5 6");
    edge("RECKONED: READ an EMPTY PLACE to which a LIST spills then");
    Cellweave l = sheet("a1:1 a2:2 b1:=O(a1:a4) c1:=b3 d1:=b2 e1:=b4 f1:=C(b1#,3)");
    set(l, "a3", "3");
    due("reckoned()", l.reckoned(), "1 2 5");
    l.clear(at("a3"));
    due("reckoned()", l.reckoned(), "1 2 5");
  }

  private static void hashCounts() {
    edge("or have a range with \"#\" whose LIST has another number of VALUES that are shown than ahead of it");
    Cellweave x = sheet("a1:1 a2:2 b1:=O(a1:a4) c1:=b1 d1:=S(b1#)");
    set(x, "a2", "1");
    due("as many", x.reckoned(), "1 3");
    set(x, "a3", "1");
    due("more", x.reckoned(), "1 3");
    set(x, "b1", "=O(a1:a3)");
    due("as many by another LIST", x.reckoned(), "1");
    set(x, "b1", "=U(a1:a3)");
    due("fewer", x.reckoned(), "1 3");
    edge("(This number is as ofPlace() of 10 tells it, so 0 of a BARRED one)");
    Cellweave y = sheet("a1:1 b1:=O(a1:a2) d1:=C(b1#,7)");
    set(y, "b1", "1");
    due("no LIST any more, an ALIKE VALUE", y.reckoned(), "3");
    set(y, "b1", "=O(a1:a2)");
    due("a LIST again", y.reckoned(), "1 3");
    Cellweave z = sheet("b1:=O(a1:a2) d1:=C(b1#,7)");
    due("came to a VALUE", z.value(1) + z.ofPlace(1, 10), "#none0");
    set(z, "b1", "=L(a1:a2)");
    due("the same VALUE of a formula", z.value(1) + z.reckoned(), "#none1");
  }

  private static void bars() {
    edge("that a LIST becomes BARRED, or is so no more, does not by itself make it RECKONED");
    Cellweave x = sheet("a1:1 a2:2 b1:=O(a1:a2) c1:=b1 d1:=S(b1#) e1:=b2");
    set(x, "b2", "9");
    due("BARRED", x.reckoned(), "2 3 4");
    due("it shows", x.value(1) + x.ofPlace(1, 10), "#bar0");
    x.clear(at("b2"));
    due("no more", x.reckoned(), "2 3 4");
    due("ofPlace() of 9", "" + x.ofPlace(1, 9) + x.ofPlace(2, 9), "01");
    set(x, "b2", "=1+1");
    due("BARRED by a formula", x.reckoned(), "2 3 9");
    set(x, "b3", "9");
    due("behind it", x.reckoned(), "3");
    Cellweave y = sheet("a1:1 a2:2 b1:=O(a1:a2)");
    y.copy(0, at("b2"));
    due("copy()", y.reckoned() + y.value(1), "#bar");
    due("clear()", y.clear(at("b2")) + y.reckoned() + y.value(1), "01");
  }

  private static void circlesReckoned() {
    edge("RECKONED: formulas that do not show \"#circle\" then, and showed \"#circle\" ahead of it");
    Cellweave x = sheet("a1:=b1 c1:=a1 d1:=I(T,1,c1)");
    set(x, "b1", "=a1");
    due("a RING comes", x.reckoned() + x.value(0) + x.value(2) + x.value(3), "#circle#circle#circle");
    set(x, "b1", "5");
    due("it goes", x.reckoned(), "0 2 3");
    set(x, "b1", "=b1");
    due("a RING of one", x.reckoned(), "");
    due("house(10)", x.house(10), 6);
    x.name(0, 0, 0);
    due("every PLACE is WRITTEN", x.reckoned(), "");
    x.undo();
    due("undo()", x.reckoned(), "");
    x.undo();
    due("undo() of the RING", x.reckoned(), "0 2 3");
    Cellweave l = sheet("a1:1 b1:=O(a1:a2) a2:=b1");
    due("a LIST on a RING", l.value(1) + l.reckoned(), "#circle");
    l.clear(at("a2"));
    due("it goes", l.value(1) + l.reckoned(), "11");
    Cellweave y = sheet("a1:=a1 b1:=a1+0 c1:5");
    set(y, "c1", "=a1");
    due("a WRITTEN one that shows it", y.reckoned(), "");
  }

  private static void onlyTried() {
    edge("What is only tried (by goal(), whatIf(), reason(), isSound()) is not RECKONED");
    Cellweave x = sheet("a1:1 b1:=a1 c1:=b1 d1:=O(a1:a3)");
    set(x, "a1", "2");
    int ever = x.house(10);
    due("reckoned()", x.reckoned(), "1 2 3");
    idle(x, "goal() without one", -10000, () -> x.goal(0, 1, 3, 23, -5));
    idle(x, "whatIf()", "3 4 5 6 7 8", () -> x.whatIf(0, 2, 3, 1, 6));
    idle(x, "reason()", "0 1 2", () -> x.reason(2));
    idle(x, "isSound()", true, () -> x.isSound());
    idle(x, "digest()", x.digest(), () -> x.digest());
    due("ever", x.house(10), ever);
    due("goal() that tries many", x.goal(0, 1, 3, 23, 20), 20);
    due("ever", x.house(10), ever + 3);
  }

  private static void listsAreFormulas() {
    edge("(\"Formulas\" are LISTS, too, in all that is told or counted.)");
    Cellweave x = sheet("a1:1 b1:=O(a1) c1:=a1 d1:5");
    due("house(1)", x.house(1), 2);
    set(x, "a1", "2");
    due("reckoned()", x.reckoned(), "1 2");
    due("sort()", x.sort(0, 1, 0), -9);
    due("sort() with a LIST alone", sheet("b1:=O(a5)").sort(0, 0, 0), -9);
  }
}
