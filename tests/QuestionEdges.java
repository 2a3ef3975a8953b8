/** Edges of promises 27 to 43: what is asked of places and of all, and reasons. */
public final class QuestionEdges extends Bench {
  private static final int[] NO_PLACES = {-1, 160, Integer.MIN_VALUE, Integer.MAX_VALUE};

  public static void main(String[] args) {
    arguments();
    whatNumbers();
    values();
    kinds();
    stands();
    needsAndBack();
    sources();
    spans();
    reasonsOfPlaces();
    reasonsOfLists();
    reasonsBelowLists();
    reasonsByTurns();
    reasonsOfNames();
    whatIfs();
    whatIfsLet();
    lists();
    named();
    alls();
    houses();
    houseOfGroups();
    doors();
    sound();
    digests();
    end();
  }

  private static void arguments() {
    Cellweave x = sheet("a1:1 b1:=a1");
    for (int p : NO_PLACES) {
      edge("if place is not 0 to 159");
      bad(x, "value(" + p + ")", () -> x.value(p));
      bad(x, "text(" + p + ")", () -> x.text(p));
      bad(x, "ofPlace(" + p + ", 0)", () -> x.ofPlace(p, 0));
      bad(x, "ofPlace(" + p + ", 11)", () -> x.ofPlace(p, 11));
      bad(x, "needs(" + p + ", true)", () -> x.needs(p, true));
      bad(x, "needs(" + p + ", false)", () -> x.needs(p, false));
      bad(x, "ring(" + p + ")", () -> x.ring(p));
      bad(x, "source(" + p + ")", () -> x.source(p));
      bad(x, "reason(" + p + ")", () -> x.reason(p));
      edge("whatIf: if in or out is not 0 to 159, from or step not -999 to 999, or many not 1 to 6");
      bad(x, "whatIf(" + p + ")", () -> x.whatIf(p, 0, 0, 0, 1));
      bad(x, "whatIf(0, " + p + ")", () -> x.whatIf(0, p, 0, 0, 1));
    }
    for (int n : new int[] {-1000, 1000, Integer.MIN_VALUE, Integer.MAX_VALUE}) {
      bad(x, "whatIf(from " + n + ")", () -> x.whatIf(0, 0, n, 0, 1));
      bad(x, "whatIf(step " + n + ")", () -> x.whatIf(0, 0, 0, n, 1));
    }
    for (int m : new int[] {0, -1, 7, Integer.MIN_VALUE, Integer.MAX_VALUE}) {
      bad(x, "whatIf(many " + m + ")", () -> x.whatIf(0, 0, 0, 0, m));
    }
    edge("ofPlace: or what not 0 to 10; house: if what is not 0 to 11");
    for (int w : new int[] {-1, Integer.MIN_VALUE, Integer.MAX_VALUE, 12}) {
      bad(x, "ofPlace(0, " + w + ")", () -> x.ofPlace(0, w));
      bad(x, "house(" + w + ")", () -> x.house(w));
    }
    bad(x, "ofPlace(0, 11)", () -> x.ofPlace(0, 11));
    due("the last ones", "" + x.ofPlace(LAST, 10) + x.house(11), "00");
  }

  private static void whatNumbers() {
    edge("ofPlace: 0 to 10");
    Cellweave x = sheet("a1:1 a2:2 b1:=O(a1:a2) c1:=b2 d1:=d1 e1:=d1 f1:=1/0 g1:=''");
    x.lock(1, true);
    x.check(1, 5, 9);
    set(x, "a1", "3");
    StringBuilder b = new StringBuilder();
    for (int p : new int[] {0, 1, 2, 3, 4, 5, 6, 7, 8, 9}) {
      for (int what = 0; what <= 10; what++) {
        b.append(x.ofPlace(p, what)).append(what < 10 ? "," : " ");
      }
    }
    due("all", b.toString(), "1,1,0,0,0,1,2,0,0,0,0 1,3,1,0,2,1,1,1,1,1,2 1,2,2,0,1,0,0,0,0,1,0 4,2,-1,1,1,2,2,0,0,0,0 4,2,-1,0,1,0,0,0,0,0,0 "
        + "4,2,0,0,0,0,0,0,0,0,0 2,2,0,0,0,0,0,0,0,0,0 0,0,0,0,0,0,0,0,0,0,0 1,1,0,0,0,1,2,0,0,0,0 1,0,0,0,0,0,0,0,0,0,0 ");
  }

  private static void values() {
    edge("value: what it shows; text: its TEXT; \"\" if it is EMPTY");
    Cellweave x = sheet("a1:3/6 b1:=a1 c1:=T d1:=X e1:=1/0 f1:=''");
    due("values", x.value(0) + " " + x.value(1) + " " + x.value(2) + " " + x.value(3) + " " + x.value(4) + " " + x.value(5) + " " + x.value(6),
        "1/2 1/2 true false #zero  ");
    due("texts", x.text(0) + " " + x.text(1) + " " + x.text(2) + " " + x.text(5) + " " + x.text(6), "1/2 =a1 =T ='' ");
    due("where a LIST spills to", sheet("a1:1 a2:2 b1:=O(a1:a2)").text(9), "");
    edge("Shown: FAULTS as here");
    Cellweave f = sheet("a1:=a1 b1:=1/0 c1:=-T d1:=L(h1) e1:=d9 f1:=S(n0) g1:=O(a19:a20) g2:1 a19:1 a20:2 h9:=9999*9999*9999*9999*9999*9999*9999");
    f.takeOut(false, 8);
    due("all eight", f.value(0) + f.value(1) + f.value(2) + f.value(3) + f.value(4) + f.value(5) + f.value(6), "#circle#zero#kind#none#gone#name#bar");
    f.undo();
    due("#long", f.value(at("h9")), "#long");
  }

  private static void kinds() {
    edge("ofPlace: 0 kind of what it shows (0 EMPTY, 1 NUMBER, 2 text, 3 TRUTH, 4 FAULT)");
    Cellweave x = sheet("a1:1 b1:a c1:=T d1:=X e1:=1/0 f1:='' g1:=h1 a2:=a1 b2:=b1 a3:=U(a1:e1)");
    StringBuilder b = new StringBuilder();
    for (int p : new int[] {0, 1, 2, 3, 4, 5, 6, 7, 8, 9, 16, 24, 32, 40, 48, 56}) {
      b.append(x.ofPlace(p, 0));
    }
    due("kinds", b.toString(), "1233421012123340");
  }

  private static void stands() {
    edge("ofPlace: 1 what stands there (0 EMPTY, 1 constant, 2 formula, 3 LIST)");
    Cellweave x = sheet("a1:1 b1:a c1:=1 d1:=O(a1:a2) e1:=U(a1) f1:=F(a1,a1) g1:=S(a1) a2:2");
    StringBuilder b = new StringBuilder();
    for (int p : new int[] {0, 1, 2, 3, 4, 5, 6, 7, 8, 11}) {
      b.append(x.ofPlace(p, 1));
    }
    due("kinds", b.toString(), "1123332010");
  }

  private static void needsAndBack() {
    edge("needs: these CELLS as PLACES, rising, with \" \" between; \"\" without any, or if it is EMPTY");
    Cellweave x = sheet("h20:1 a1:2 c5:3 b2:=h20+c5+a1 g19:=a1 a3:=a1+a9");
    due("that it NEEDS", x.needs(9, false), "0 34 159");
    due("that NEED it", x.needs(0, true), "9 16 150");
    due("that NEED the last one", x.needs(LAST, true), "9");
    due("of an EMPTY one", x.needs(at("a9"), true) + x.needs(at("a9"), false), "");
    due("of a constant", x.needs(0, false), "");
    due("EMPTY PLACES are no CELLS", x.needs(16, false), "0");
    Cellweave r = sheet("a1:=a1");
    due("itself", r.needs(0, true) + r.needs(0, false), "00");
    Cellweave f = new Cellweave();
    set(f, "a1", "=S(a2:h20)");
    for (int p = 8; p < 67; p++) {
      type(f, "1");
      f.put(p);
    }
    due("59 of them", f.ofPlace(0, 4) + "," + f.needs(0, false).split(" ").length + "," + f.value(0), "59,59,59");
    due("each is NEEDED", f.needs(66, true), "0");
  }

  private static void sources() {
    edge("source: that PLACE, if it is a CELL; that of the LIST that spills there; NONE without");
    Cellweave x = sheet("a1:1 a2:2 b1:=O(a1:a2) c1:=b2 h20:5 d1:=O(h1:h3) e19:=O(a1:a2)");
    due("CELLS", "" + x.source(0) + x.source(1) + x.source(2) + x.source(LAST), "012159");
    due("a LIST's", x.source(9), 1);
    due("the last PLACE of a column", x.source(at("e20")), at("e19"));
    due("behind it", x.source(17), -1);
    due("none", x.source(at("h19")), -1);
    due("a LIST that came to a VALUE", x.source(3) + "," + x.source(11), "3,-1");
    set(x, "b2", "1");
    due("a CELL in the way", x.source(1) + "," + x.source(9) + "," + x.source(17), "1,9,-1");
  }

  private static void spans() {
    edge("ofPlace: 10 how many VALUES its LIST has that are shown (0 of what is no LIST, is BARRED, or came to a VALUE instead)");
    Cellweave x = sheet("a1:1 a2:2 b1:=O(a1:a2) c1:=S(a1:a2) d1:=O(h1) e1:=O(n0) f1:=O(a1:a2) f2:1 g1:=U(a1) h5:=O(h5) d20:=O(a1:a2)");
    StringBuilder b = new StringBuilder();
    for (int p : new int[] {0, 1, 2, 3, 4, 5, 6, 9, at("h5"), at("d20"), LAST}) {
      b.append(x.ofPlace(p, 10));
    }
    due("numbers", b.toString(), "02000010000");
  }

  private static void reasonsOfPlaces() {
    edge("(For an EMPTY PLACE that nothing spills to there is none.)");
    Cellweave x = sheet("a1:1 a2:0 b1:=a1+a2 c1:=I(b1<5,a1,a3) a3:9 d1:=N(a1) e1:=a9 f1:5");
    due("an EMPTY one", x.reason(99) + x.reason(at("a9")), "");
    edge("REASON of a PLACE: at first its own CELL, those that this LEANS ON");
    due("a constant", x.reason(0), "0");
    due("a constant 0", x.reason(8), "8");
    due("what NEEDS none", x.reason(5), "5");
    due("what NEEDS an EMPTY one", x.reason(4), "4");
    edge("From these CELLS are taken away ..., if the PLACE shows an ALIKE VALUE with all other CELLS of the sheet that are not in what is left EMPTY");
    due("a 0 that counts nothing", x.reason(1), "0 1");
    due("what does not count any more", x.reason(3), "3");
    due("a branch that is not taken", x.reason(2), "0 2");
    Cellweave z = sheet("a1:0 b1:=a1 c1:=b1+0");
    due("nothing but itself", z.reason(2) + "," + z.reason(1), "2,1");
    Cellweave h = sheet("a1:=I(T,5,h20)+b1 h20:3 b1:1 g20:=a1");
    due("the first and the last PLACE", h.reason(0) + "," + h.reason(LAST) + "," + h.reason(LAST - 1), "0 1,159,0 1 158");
    Cellweave r = sheet("a1:=b1+c1 b1:=a1 c1:=a1 d1:=c1");
    due("a RING: one way is enough", r.reason(0) + "," + r.reason(3), "0 1,0 2 3");
    due("a RING of one", sheet("a1:=a1").reason(0), "0");
    due("what LEANS ON a RING", sheet("a1:=a1 b1:=a1 c1:=b1").reason(2), "0 1 2");
    Cellweave f = sheet("a1:1 b1:=1/0 c1:=a1+b1");
    due("a FAULT", f.reason(2), "1 2");
    due("another kind is not ALIKE", sheet("a1:='' b1:=a1&''").reason(1), "1");
  }

  private static void reasonsOfLists() {
    edge("REASON of a PLACE: at first its own CELL (or that of the LIST that spills there)");
    Cellweave x = sheet("a1:3 a2:1 a3:2 b1:=O(a1:a3)");
    due("the first one", x.reason(1), "1 8");
    due("the second one", x.reason(9), "1 8 16");
    due("the third one", x.reason(17), "0 1 8 16");
    due("behind it", x.reason(25), "");
    Cellweave u = sheet("a1:3 a2:3 a3:5 b1:=U(a1:a3) c1:=b2");
    due("the greatest number is tried first", u.reason(1), "0 1");
    due("one of two like ones", u.reason(9), "0 1 16");
    due("what LEANS ON it", u.reason(2), "0 1 2 16");
    due("a LIST of a FAULT", sheet("a1:5 b1:=F(a1,n0)").reason(1), "1");
    due("a LIST of none", sheet("a1:=X a2:5 b1:=F(a2,a1)").reason(1), "1");
  }

  private static void reasonsBelowLists() {
    edge("and, with each LIST among all these (also one that comes so), the nearest CELL below it in its column");
    Cellweave x = sheet("a1:3 a2:1 a3:2 b1:=O(a1:a3) b3:9");
    due("BARRED", x.reason(1), "0 1 8 16 17");
    Cellweave n = sheet("a1:3 a2:1 b1:=O(a1:a2) b3:9 c1:=b1");
    due("not BARRED, it is taken away", n.reason(1) + "," + n.reason(2), "1 8,1 2 8");
    Cellweave l = sheet("a1:1 a2:2 c1:=O(a1:a2) c2:=O(a1:a2) c3:5 d1:=c1");
    due("a LIST that comes so, and what is below that", l.reason(at("c1")), "0 2 8 10");
    due("the LIST below is BARRED itself", l.reason(at("c2")), "0 8 10 18");
    due("what LEANS ON it", l.reason(3), "0 2 3 8 10");
    Cellweave f = sheet("a1:1 a2:2 b1:=O(a1:a2) b5:7 b9:8 c1:=S(b1#)");
    due("the nearest one alone", f.reason(2), "0 1 2 8");
    Cellweave b = sheet("a1:1 a2:2 a3:5 c1:=O(a1:a3) c3:5 d1:=c3");
    due("what would be shown by a CELL that is not among these", b.reason(3), "3 18");
    Cellweave p = sheet("a1:1 a2:5 c1:7 c2:=O(a1:a2) c3:5 d1:=c1+c3+a1*0+a2*0");
    due("the CELL below what is no LIST", p.reason(3), "2 3 18");
    due("a LIST at the first PLACE", sheet("a1:=O(b1:b2) b1:1 b2:2 a2:5").reason(0), "0 1 8 9");
    due("BARRED by the end", sheet("a1:1 a2:2 h20:=O(a1:a2)").reason(LAST), "0 8 159");
  }

  private static void reasonsByTurns() {
    edge("the one with the greatest number first, then by falling numbers; when each had its turn, this again and again, till none can be taken away");
    Cellweave x = sheet("a1:2 a2:2 b1:=M(a1:a2)");
    due("the greatest number first", x.reason(1), "0 1");
    Cellweave y = sheet("b1:1 c1:-1 d1:2 e1:=S(b1:d1)");
    due("no one alone can be taken away", y.reason(4), "1 2 3 4");
    Cellweave s = sheet("a1:1 b1:-1 c1:=a1+b1");
    due("1 and -1: neither goes alone", s.reason(2), "0 1 2");
    Cellweave t = sheet("a1:=N(b1+c1) b1:abc c1:=I(b1='abc',b1,1)");
    due("a FAULT of two", t.reason(0), "0 1");
    Cellweave w = sheet("c1:=(a1+a2)*a3 a1:5 a2:-5 a3:1");
    due("c1 shows 0: a3 first, then all", w.reason(2), "2");
    Cellweave v = sheet("c1:=a1*(a2+a3) a1:1 a2:5 a3:-5");
    due("c1 shows 0: neither of the greater ones, then a1, then in the second turn both", v.reason(2), "2");
    Cellweave u = sheet("c1:=a1*(a2-1)+a2*(a3-1) a1:1 a2:1 a3:1");
    due("a1 in the first turn, a2 in the second one, a3 in the third one", u.reason(2), "2");
  }

  private static void reasonsOfNames() {
    edge("REASON: (and names as they are)");
    Cellweave x = sheet("a1:4 b1:5 c1:=S(n0)");
    due("not told", x.reason(2), "2");
    x.name(0, 0, 1);
    due("told", x.reason(2), "0 1 2");
    x.name(0, 0, 8);
    due("told anew", x.reason(2), "0 2");
  }

  private static void whatIfs() {
    edge("whatIf: what the second one would show, if the constant NUMBER from, from + step and so on stood at the first one, with \" \" between");
    Cellweave x = sheet("a1:1 b1:=a1*a1 c1:=a9 d1:='' e1:=1/a1 f1:=O(a1:a3) a3:2");
    due("six", x.whatIf(0, 1, -2, 1, 6), "4 1 0 1 4 9");
    due("one", x.whatIf(0, 1, 5, 999, 1), "25");
    due("a FAULT", x.whatIf(0, 4, -1, 1, 3), "-1 #zero 1");
    due("the least", x.whatIf(0, 0, -999, -999, 6), "-999 -1998 -2997 -3996 -4995 -5994");
    due("the greatest", x.whatIf(0, 0, 999, 999, 6), "999 1998 2997 3996 4995 5994");
    due("step 0", x.whatIf(0, 0, 7, 0, 3), "7 7 7");
    due("EMPTY", x.whatIf(0, 99, 7, 0, 3), "  ");
    due("EMPTY once", x.whatIf(0, 99, 7, 0, 1), "");
    due("a text without signs", x.whatIf(0, 3, 7, 0, 2), " ");
    due("an EMPTY one", x.whatIf(at("a9"), 2, 7, 1, 2), "7 8");
    due("where a LIST spills to", x.whatIf(0, at("f2"), 1, 1, 3), "2 2 3");
    due("where it is BARRED by that", x.whatIf(at("f2"), 5, 1, 1, 2), "#bar #bar");
    due("a formula gives way", x.whatIf(1, 1, 7, 1, 2), "7 8");
    due("a RING goes", sheet("a1:=b1 b1:=a1").whatIf(0, 1, 7, 1, 2), "7 8");
    idle(x, "nothing is changed", "7 8", () -> x.whatIf(0, 0, 7, 1, 2));
  }

  private static void whatIfsLet() {
    edge("whatIf: (LOCKS and the most CELLS do not matter)");
    Cellweave x = full();
    x.lock(0, true);
    x.lock(LAST, true);
    idle(x, "a LOCKED one", "7 8", () -> x.whatIf(0, 0, 7, 1, 2));
    idle(x, "a 61st, LOCKED", "7 8", () -> x.whatIf(LAST, LAST, 7, 1, 2));
    x.lock(9, false);
    set(x, "b2", "=h20+1");
    idle(x, "a 61st that is NEEDED", "8 9 10 11 12 13", () -> x.whatIf(LAST, 9, 7, 1, 6));
    Cellweave y = new Cellweave();
    for (int p = 0; p < 60; p++) {
      type(y, "=" + Model.shown(p + 1) + "+1");
      y.put(p);
    }
    due("60 that lean on a 61st", y.whatIf(60, 0, 5, 1, 2) + "," + y.value(0), "65 66,60");
  }

  private static void lists() {
    edge("reckoned, bad, differs, needs: rising, with \" \" between (nothing of none)");
    Cellweave x = sheet("a1:1");
    due("none", x.reckoned() + x.bad() + x.needs(0, true) + x.ring(0), "");
    set(x, "h20", "=a1");
    due("one", x.reckoned(), "159");
    set(x, "b1", "=a1");
    set(x, "h1", "=a1");
    set(x, "c4", "=a1");
    set(x, "a1", "5");
    due("four", x.reckoned(), "1 7 26 159");
    x.check(LAST, 0, 4);
    x.check(0, 0, 4);
    x.check(26, 0, 4);
    due("bad()", x.bad(), "0 26 159");
    due("differs()", x.differs(0), "0 1 7 26 159");
    due("needs()", x.needs(0, true), "1 7 26 159");
    edge("ofPlace: 9 1 if it was RECKONED by the last EDIT");
    Cellweave f = sheet("a1:=1 h20:=a1");
    due("the last one", "" + f.ofPlace(0, 9) + f.ofPlace(LAST, 9) + f.reckoned(), "01159");
    set(f, "a1", "=2");
    due("the first one", "" + f.ofPlace(0, 9) + f.ofPlace(LAST, 9) + f.reckoned(), "110 159");
  }

  private static void named() {
    edge("named: \"\" if it is not told");
    Cellweave x = new Cellweave();
    due("not told", x.named(0) + x.named(5), "");
    x.name(5, 159, 159);
    due("told", x.named(5), "h20:h20");
    x.name(5, -1, 0);
    due("told no more", x.named(5), "");
  }

  private static void alls() {
    edge("all: CELL by CELL, by rising PLACES, its PLACE as letter and row, \":\" and its TEXT, with \";\" between");
    due("none", new Cellweave().all(), "");
    due("one", sheet("h20:1").all(), "h20:1");
    due("some", sheet("h20:4/2 a10:=$a$1+b2 b1:abc a1:=''").all(), "a1:='';b1:abc;a10:=$a$1+b2;h20:2");
    due("60", full().all().split(";").length, 60);
    due("no spilled ones", sheet("a1:1 a2:2 b1:=O(a1:a2)").all(), "a1:1;b1:=O(a1:a2);a2:2");
  }

  private static void houses() {
    edge("house: 0 CELLS, 1 formulas, 2 FAULTS that are shown (with those of EMPTY PLACES to which LISTS spill)");
    Cellweave x = sheet("a1:=1/0 a2:=-T b1:=U(a1:a2) c1:5 d1:=a1 e1:=N(a1) f1:=f1");
    due("CELLS", x.house(0), 7);
    due("formulas", x.house(1), 6);
    due("FAULTS", x.house(2), 6);
    edge("house: 3 how many lie on a RING, 4 the greatest LEVEL, 5 names that are told, 6 LOCKED PLACES, 7 BAD ones");
    due("on a RING", x.house(3), 1);
    due("the greatest LEVEL", x.house(4), 1);
    x.name(0, 0, 0);
    x.name(5, 0, 0);
    x.lock(LAST, true);
    x.lock(0, true);
    x.lock(9, true);
    x.check(9, 0, 5);
    x.check(2, 5, 5);
    x.check(0, 5, 5);
    x.check(LAST, 5, 5);
    due("names, LOCKED, BAD", "" + x.house(5) + x.house(6) + x.house(7), "232");
    Cellweave all = new Cellweave();
    for (int p = 0; p <= LAST; p++) {
      all.lock(p, true);
    }
    due("all PLACES are LOCKED", all.house(6), 160);
    Cellweave bad = new Cellweave();
    bad.fill(0, 0, 0);
    for (int p = 0; p < 60; p++) {
      type(bad, "T");
      bad.put(p);
      bad.check(p, 0, 9);
    }
    due("60 are BAD", bad.house(7) + "," + bad.bad().split(" ").length, "60,60");
  }

  private static void houseOfGroups() {
    edge("house: 8 GROUPS that can be UNDONE, 9 GROUPS that can be DONE AGAIN, 10 how many formulas were RECKONED ever");
    Cellweave x = sheet("a1:1 b1:=a1 c1:=b1");
    due("three, two", x.house(8) + "," + x.house(9) + "," + x.house(10), "3,0,2");
    set(x, "a1", "2");
    due("two more", x.house(10), 4);
    x.undo();
    due("UNDOING, too", x.house(8) + "," + x.house(9) + "," + x.house(10), "3,1,6");
    x.redo();
    due("DOING AGAIN, too", x.house(8) + "," + x.house(9) + "," + x.house(10), "4,0,8");
    x.open();
    set(x, "a1", "3");
    set(x, "a1", "4");
    due("each EDIT of a GROUP", x.house(8) + "," + x.house(10), "5,12");
  }

  private static void doors() {
    edge("DOOR: who knocks there is REFUSED entry; how many were REFUSED at the DOOR ever, with this");
    Cellweave x = sheet("a1:1 b1:=a1");
    for (int i = 1; i <= 300; i++) {
      due("knock()", x.knock(), i);
    }
    due("house(11)", x.house(11), 300);
    due("no EDIT", x.house(8) + "," + x.reckoned(), "2,1");
    x.undo();
    due("it is not UNDONE", x.house(11) + "," + x.house(9), "300,1");
    x.knock();
    due("it does not end what can be DONE AGAIN", x.house(9), 1);
  }

  private static void sound() {
    edge("isSound");
    String[] sheets = {"", "a1:1", "a1:=a1", "a1:=b1 b1:=a1 c1:=a1", "a1:1 a2:2 b1:=O(a1:a2) b2:5", "h20:=a1", "a1:=a19", "a1:=a20", "a5:=S(a5:a6)",
        "b9:=S(a5:a6)&S(a6)&a5&a6&a7&S(a5#)", "b9:=O(a5:a5)", "a1:='a5'", "a1:=((((((((1))))))))", "a6:1 a5:2 a4:3 b1:=S(a4:a6)"};
    for (String cells : sheets) {
      Cellweave x = sheet(cells);
      idle(x, cells, true, () -> x.isSound());
    }
    Cellweave x = sheet("b2:=S(a1:a9)&C(b6#,a1)&'a6' b7:=a7 c6:=S(a6:b6)");
    x.copy(9, 0);
    x.takeOut(false, 5);
    due("with what is GONE", "" + x.isSound(), "true");
    x.lock(at("a20"), true);
    due("a row could not be PUT IN", x.isSound(), true);
    due("60 CELLS", full().isSound(), true);
  }

  private static long more(long d, long v) {
    return d * 31 + v;
  }

  /** The checksum as the document tells it, from what the other calls answer. */
  static long digestOf(Cellweave x) {
    long d = 5800;
    for (int what = 0; what <= 11; what++) {
      d = more(d, x.house(what));
    }
    for (int p = 0; p <= LAST; p++) {
      boolean isCell = x.ofPlace(p, 1) != 0;
      if (isCell || x.ofPlace(p, 0) != 0) {
        d = more(more(more(d, p), x.value(p).length()), x.text(p).length());
        for (int what = 0; isCell && what <= 10; what++) {
          d = more(d, x.ofPlace(p, what));
        }
      }
    }
    for (int n = 0; n < 6; n++) {
      d = more(d, x.named(n).length());
    }
    for (int v = 0; v < 3; v++) {
      d = more(d, x.differs(v).length());
    }
    d = more(more(more(d, x.input().length()), x.reckoned().length()), x.bad().length());
    return more(more(d, x.fault()), x.isSound() ? 1 : 0);
  }

  private static void digests() {
    edge("A number d starts with 5800; then d becomes d * 31 + v, which wraps around as a 64-bit integer");
    Cellweave x = new Cellweave();
    due("of an empty sheet", x.digest(), digestOf(x));
    String[] sheets = {"a1:1", "a1:=a1 b1:=a1", "a1:1/2 a2:-5 b1:=U(a1:a2) c1:=b2 d1:=1/0 h20:=''", "a10:1 h12:5 g13:=S(a10:h12)", "a1:1 a2:1 b1:=O(a1:a2) b2:1",
        "e5:=1024*1024*1024*1024 e6:=e5*e5 e7:=1/e6"};
    for (String cells : sheets) {
      Cellweave y = sheet(cells);
      y.name(2, 0, 100);
      y.lock(9, true);
      y.check(0, 7, 9);
      y.check(120, 7, 9);
      y.keep(1);
      set(y, "h9", "=a1+h20");
      set(y, "h16", "1");
      y.undo();
      y.knock();
      due("of " + cells, y.digest(), digestOf(y));
      type(y, "=1+)");
      due("with an INPUT", y.digest(), digestOf(y));
      idle(y, "digest()", y.digest(), () -> y.digest());
    }
    for (int p : new int[] {0, 9, 10, 11, 98, 99, 100, 101, LAST}) {
      Cellweave one = new Cellweave();
      type(one, "T");
      one.put(p);
      due("of a CELL at " + p, one.digest(), digestOf(one));
      type(one, "1");
      one.put(5);
      due("of two CELLS", one.digest(), digestOf(one));
    }
    Cellweave f = full();
    f.fill(at("h20"), at("a1"), at("a8"));
    due("of many CELLS", f.digest(), digestOf(f));
    f.name(0, 3, 3);
    long one = f.digest();
    f.knock();
    due("another one behind a knock()", f.digest() == one, false);
  }
}
