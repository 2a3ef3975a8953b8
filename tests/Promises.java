/** At least one test for each promise: ordinary calls, the edges that the document names, wrong arguments. */
public final class Promises extends Bench {
  public static void main(String[] args) {
    input();
    puts();
    values();
    places();
    functions();
    lists();
    needs();
    reckoned();
    edits();
    lines();
    sorts();
    names();
    goals();
    versions();
    groups();
    reasons();
    questions();
    end();
  }

  private static void input() {
    edge("promise 1");
    Cellweave n = new Cellweave();
    due("all()", n.all(), "");
    due("input()", n.input(), "");
    due("house", n.house(0) + n.house(1) + n.house(5) + n.house(8) + n.house(10) + n.house(11), 0);
    edge("promise 2");
    Cellweave x = new Cellweave();
    for (int i = 0; i < 40; i++) {
      due("sign()", x.sign(i), i + 1);
    }
    notNow(x, "sign(0) behind 40", () -> x.sign(0));
    bad(x, "sign(45) behind 40", () -> x.sign(45));
    bad(x, "sign(-1)", () -> x.sign(-1));
    edge("promise 5");
    due("input()", x.input(), Model.SIGNS.substring(0, 40));
    edge("promise 4");
    due("rub(0)", x.rub(0), 40);
    due("rub(3)", x.rub(3), 37);
    due("rub(many)", x.rub(Integer.MAX_VALUE), 0);
    bad(x, "rub(-1)", () -> x.rub(-1));
    for (int s = 40; s <= 44; s++) {
      x.sign(s);
    }
    due("input()", x.input(), "FUNTX");
    edge("promise 3");
    Cellweave y = new Cellweave();
    due("place()", y.place(0, 0), 2);
    due("place()", y.place(159, 1), 6);
    due("place()", y.place(159, 2), 10);
    due("place()", y.place(8 * 9 - 1, 3), 14);
    due("input()", y.input(), "a1h$20$h20$h$9");
    bad(y, "place(160)", () -> y.place(160, 0));
    bad(y, "place(-1)", () -> y.place(-1, 0));
    bad(y, "held 4", () -> y.place(0, 4));
    bad(y, "held -1", () -> y.place(0, -1));
    for (int i = y.input().length(); i < 38; i++) {
      y.sign(1);
    }
    notNow(y, "place() behind 38", () -> y.place(80, 0));
    bad(y, "place(160) behind 38", () -> y.place(160, 3));
    due("place()", y.place(8, 0), 40);
    edge("promise 6");
    faults();
  }

  private static void faults() {
    Object[][] all = {
        {"", 0}, {"5", -1}, {"-", -1}, {"abcdefghabcdefgh", -1}, {"abcdefghabcdefgha", 16},
        {"1234567890123456", -1}, {"=", 1}, {"=1", -1}, {"=1234", -1}, {"=12345", 5}, {"=a25", 3},
        {"=a20", -1}, {"=a21", 3}, {"=a30", 3}, {"=a0", 2}, {"=a01", 2}, {"=)", 1},
        {"=a", 2}, {"=$", 2}, {"=$a$", 4}, {"=$a$1", -1}, {"=$$a1", 2}, {"=a$$1", 3}, {"=1+", 3},
        {"=1++1", 3}, {"=--1", -1}, {"=1=2", -1}, {"=1=2=3", 4}, {"=1<2<3", 4}, {"=(1=2)=3", -1},
        {"=1)", 2}, {"=(1", 3}, {"='abcdefgha'", -1}, {"='abcdefghab'", 11}, {"=''", -1}, {"='a", 3},
        {"=T&X", -1}, {"=TX", 2}, {"=n1", 1}, {"=S(n5)", -1}, {"=S(n6)", 4}, {"=S(n)", 4},
        {"=S(a1:b2)", -1}, {"=S(a1#)", -1}, {"=S(a1)", -1}, {"=S(a1:n1)", 6}, {"=S(a1#:b2)", 6},
        {"=S(1)", 3}, {"=S()", 3}, {"=Sa", 2}, {"=a1#", 3}, {"=a1:b2", 3}, {"=C(a1)", 5},
        {"=C(a1,1)", -1}, {"=I(1,2)", 6}, {"=I(1,2,3)", -1}, {"=I(1,2,3,4)", 8}, {"=K(1,a1,b1)", -1},
        {"=K(1,a1,1)", 8}, {"=N(1)", -1}, {"=N(a1:b2)", 5}, {"=O(a1:b2)", -1}, {"=U(n0)", -1},
        {"=F(a1,b1)", -1}, {"=F(a1)", 5}, {"=O(a1)+1", 6}, {"=1+O(a1)", 3}, {"=-O(a1)", 2},
        {"=(O(a1))", 2}, {"=O(1)", 3}, {"=((((((((1))))))))", -1}, {"=(((((((((1)))))))))", 9},
        {"=((((((((1)))))))+(1", 20}, {"=(((((((S(a1))))))))", -1}, {"=((((((((S(a1", 10},
        {"=((((((I(1,2,(1))))))))", -1}, {"=((((((I(1,(2),(1))))))))", -1}, {"=((((((I((1),2,((1", 16},
        {"=((((((K((1),a1,a2)))))))", -1}, {"=((((((K(((1", 10}, {"=((((((C(a1,((1", 13},
        {"=((((((N(((1", 10}, {"=(((((((I(1,(2", 12}, {"=(((((((I(1,2,(2", 14},
    };
    for (Object[] one : all) {
      due("fault of " + one[0], faultOf((String) one[0]), one[1]);
    }
  }

  private static void puts() {
    edge("promise 7");
    Cellweave x = new Cellweave();
    due("put() of nothing", x.put(0), 0);
    bad(x, "put(160) of nothing", () -> x.put(160));
    bad(x, "put(-1)", () -> x.put(-1));
    due("put()", set(x, "a1", "=a1+"), 4);
    due("the input stays", x.input(), "=a1+");
    due("no edit", x.house(8), 0);
    due("put()", set(x, "a1", "12"), -1);
    due("the input is empty", x.input(), "");
    due("edits", x.house(8), 1);
    String[][] constants = {
        {"6/4", "3/2", "1"}, {"-6/4", "-3/2", "1"}, {"000012", "12", "1"}, {"-0", "0", "1"},
        {"0/7", "0", "1"}, {"123456/999", "41152/333", "1"}, {"1/001", "1", "1"}, {"1/000", "1/000", "2"},
        {"1234567", "1234567", "2"}, {"1/1234", "1/1234", "2"}, {"1/", "1/", "2"}, {"-", "-", "2"},
        {"--1", "--1", "2"}, {"-1/-2", "-1/-2", "2"}, {"T", "T", "2"}, {"'a'", "'a'", "2"},
        {"/5", "/5", "2"}, {"1/2/3", "1/2/3", "2"},
    };
    for (String[] one : constants) {
      set(x, "b2", one[0]);
      due("value of " + one[0], x.value(at("b2")), one[1]);
      due("kind of " + one[0], "" + x.ofPlace(at("b2"), 0), one[2]);
      due("text of " + one[0], x.text(at("b2")), one[1]);
    }
    x.lock(at("c3"), true);
    String before = x.all();
    due("put() at a locked place", set(x, "c3", "1"), -9);
    due("the input stays", x.input(), "1");
    due("put() of a fault at a locked place", set(x, "c3", "=1+"), 3);
    due("all()", x.all(), before);
    Cellweave f = full();
    due("a 61st cell", set(f, "h20", "1"), -9);
    due("another cell", set(f, "a1", "1"), -1);
    due("cells", f.house(0), 60);
  }

  private static void values() {
    edge("promise 27");
    String[][] all = {
        {"=1+2*3-4/2", "5"}, {"=7/2", "7/2"}, {"=-7/2", "-7/2"}, {"=1/0", "#zero"}, {"=0/0", "#zero"},
        {"='a'/0", "#kind"}, {"='a'+1", "#kind"}, {"='a'+1/0", "#zero"}, {"=1&2", "12"}, {"=1&2+3", "#kind"}, {"=1+2&3", "33"}, {"=T&X&1/2", "truefalse1/2"},
        {"='abcdefgh'&'abcdefgh'", "abcdefghabcdefgh"}, {"='abcdefgha'&'abcdefgh'", "#long"},
        {"=a1", "0"}, {"=(a1)", "0"}, {"=-a1", "0"}, {"=a1&a1", ""}, {"=a1=b1", "true"}, {"=a1=0", "false"},
        {"=a1=''", "false"}, {"=(a1)=b1", "true"}, {"=I(T,a1,1)=b1", "false"}, {"=a1+0=b1", "false"},
        {"=a1<1", "true"}, {"=a1<''", "#kind"}, {"=1<'a'", "#kind"}, {"=T<X", "false"}, {"=X<T", "true"},
        {"='a'<'ab'", "true"}, {"='ab'<'a'", "false"}, {"='S'<'a'", "true"}, {"=''<'a'", "true"},
        {"=1/2<2/3", "true"}, {"=-1<-2", "false"}, {"=1='1'", "false"}, {"=2/4=1/2", "true"},
        {"=T=T", "true"}, {"=1/0=1/0", "#zero"}, {"=--5", "5"}, {"=---5", "-5"}, {"=-'a'", "#kind"},
        {"=-T", "#kind"}, {"=1<1", "false"}, {"=2*-3", "-6"}, {"=-2*-3", "6"}, {"=8/4/2", "1"},
        {"=9-3-2", "4"}, {"=0007", "7"}, {"='(,='", "(,="},
    };
    for (String[] one : all) {
      due(one[0], shows("", one[0]), one[1]);
    }
    longNumbers();
    Cellweave x = sheet("a1:=''");
    due("a text without signs is something", x.ofPlace(0, 0), 2);
    bad(x, "value(160)", () -> x.value(160));
    bad(x, "value(-1)", () -> x.value(-1));
  }

  private static void longNumbers() {
    Cellweave x = sheet("a1:=1024*1024*1024*1024*32 a2:=a1-1 a3:=a2*(a1+1) a4:=a3+1 a5:=-a3 a6:=1/a3 a7:=1/(a3+1)"
        + " a8:=a6*a6 a9:=S(a3:a3) b3:1 b4:=-a3 a10:=a3-1+1 a11:=a3/a3");
    due("90 digits", x.value(at("a3")), "1237940039285380274899124223");
    due("91 digits", x.value(at("a4")), "#long");
    due("90 digits", x.value(at("a5")), "-1237940039285380274899124223");
    due("90 digits below", x.value(at("a6")), "1/1237940039285380274899124223");
    due("what a fault makes", x.value(at("a7")), "#long");
    due("180 digits below", x.value(at("a8")), "#long");
    due("a quotient", x.value(at("a11")), "1");
    set(x, "c1", "=S(a3:b4)");
    due("a fault in a sum", x.value(at("c1")), "#long");
    set(x, "a4", "5");
    due("a sum that is longer between", x.value(at("c1")), "6");
    set(x, "b4", "=0");
    due("a sum that is too long", x.value(at("c1")), "#long");
  }

  private static void places() {
    edge("promise 28");
    Cellweave x = sheet("a1:=$b$2+b3&'a1' h20:=g20");
    due("text()", x.text(0), "=$b$2+b3&'a1'");
    due("text() of an empty place", x.text(5), "");
    bad(x, "text(160)", () -> x.text(160));
    bad(x, "text(-1)", () -> x.text(-1));
    edge("promise 9");
    due("copy()", x.copy(0, at("b2")), 0);
    due("text()", x.text(at("b2")), "=$b$2+c4&'a1'");
    due("a ring", x.value(at("b2")), "#circle");
    x.copy(0, at("g19"));
    due("text()", x.text(at("g19")), "=$b$2+?&'a1'");
    due("value()", x.value(at("g19")), "#circle");
    x.clear(at("b2"));
    due("value()", x.value(at("g19")), "#gone");
    x.copy(at("g19"), 0);
    due("gone stays gone", x.text(0), "=$b$2+?&'a1'");
    x.copy(at("c9"), 0);
    due("copy of nothing", x.text(0), "");
    x.lock(at("h20"), true);
    due("copy to a locked place", x.copy(0, at("h20")), -9);
    due("copy of a locked place to it", x.copy(at("h20"), at("h20")), -9);
    due("copy from a locked place", x.copy(at("h20"), at("b20")), 1);
    due("text()", x.text(at("b20")), "=a20");
    bad(x, "copy(-1, 0)", () -> x.copy(-1, 0));
    bad(x, "copy(0, 160)", () -> x.copy(0, 160));
    Cellweave r = sheet("b2:=S(a1:$b$3)+C(b1#,a1)+C(n0,$a1)");
    r.copy(at("b2"), at("a2"));
    due("a range with a corner gone", r.text(at("a2")), "=S(?)+C(a1#,?)+C(n0,$a1)");
    r.copy(at("b2"), at("b1"));
    due("all gone", r.text(at("b1")), "=S(?)+C(?,?)+C(n0,?)");
    Cellweave f = full();
    due("a 61st cell by copy", f.copy(0, 159), -9);
    due("copy onto a cell", f.copy(0, 1), 0);
    due("copy of nothing when full", f.copy(159, 158), 0);
  }

  private static void functions() {
    edge("promise 27");
    String cells = "a1:3 a2:-1/2 a3:abc b1:=T b2:3 c1:=1/0";
    String[][] all = {
        {"=S(a1:b2)", "11/2"}, {"=S(a1:a4)", "5/2"}, {"=S(d1:d9)", "0"}, {"=S(a1:c1)", "#zero"},
        {"=L(a1:b3)", "-1/2"}, {"=M(b3:a1)", "3"}, {"=L(a3:b3)", "#none"}, {"=M(d1)", "#none"},
        {"=L(c1:a1)", "#zero"}, {"=S(n0)", "#name"}, {"=C(a1:c3,3)", "2"}, {"=C(a1:c3,d9)", "0"},
        {"=C(a1:c3,'abc')", "1"}, {"=C(a1:c3,T)", "1"}, {"=C(n1,1/0)", "#name"}, {"=C(a1,1/0)", "#zero"},
        {"=I(T,1,1/0)", "1"}, {"=I(X,1/0,2)", "2"}, {"=I(1,2,3)", "#kind"}, {"=I(d1,2,3)", "#kind"},
        {"=I(1/0,2,3)", "#zero"}, {"=N(c1)", "true"}, {"=N(a1)", "false"},
        {"=N(d1)", "false"}, {"=N(S(n0))", "true"}, {"=K(3,a1:a3,b1:b3)", "true"},
        {"=K('abc',a1:a3,b1:b3)", "0"}, {"=K('abc',a1:a3,b1:b2)", "#none"}, {"=K(5,a1:a3,b1:b3)", "#none"},
        {"=K(1/0,n0,n1)", "#zero"}, {"=K(5,n0,n1)", "#name"}, {"=K(5,a1,n1)", "#name"},
        {"=K(T,b1:c1,b1:c1)", "true"}, {"=K(3,a1:c1,c1)", "#zero"}, {"=K(d1,a1:d1,b1)", "#none"},
        {"=K(3,a1,b1)", "true"}, {"=K(3,a1,a1)", "3"}, {"=K(4,a1,a1)", "#none"},
        {"=((((((((a1))))))))", "3"}, {"=C(d1,C(d1,C(d1,C(d1,C(d1,C(d1,1))))))", "0"},
        {"=(((((C(a1,C(a1,C(a1,3))))))))", "0"}, {"=N(N(N(N(N(N(N(N(1/0))))))))", "false"},
        {"=((((I(T,I(T,I(T,I(T,7,1),2),3),4)))))", "7"}, {"=(((((I(X,1,I(X,1,(8))))))))", "8"},
        {"=((((((I((T),(5),6)))))))", "5"}, {"=(((((((S(a1)))))))+1)", "4"},
        {"=(((((((K(3,a1,a2))))))))", "-1/2"}, {"=((((K((K((3),a1,a1)),a1,a2)))))", "-1/2"},
        {"=S(a1)+S(b2)", "6"}, {"=N(1/0)&1", "true1"},
    };
    for (String[] one : all) {
      due(one[0], shows(cells, one[0]), one[1]);
    }
    Cellweave x = sheet("a1:0 a3:0 b1:=C(a1:a3,d1) b2:=K(d1,a1:a3,a3) b3:=S(a1#)");
    due("empty is 0 for C", x.value(at("b1")), "2");
    due("empty is 0 for K", x.value(at("b2")), "0");
    due("# of no list", x.value(at("b3")), "0");
  }

  private static void lists() {
    edge("promise 27");
    Cellweave x = sheet("a1:2 a2:abc a3:=1/0 a4:2 a5:ab a6:=T a7:=X a8:1/2 a9:='' c1:=O(a1:a10)");
    String due = "1/2 2 2  ab abc false true #zero ";
    StringBuilder got = new StringBuilder();
    for (int i = 0; i < 9; i++) {
      got.append(x.value(2 + 8 * i)).append(' ');
    }
    due("O", got.toString(), due);
    due("how many", x.ofPlace(2, 10), 9);
    due("source()", x.source(2 + 8 * 8), 2);
    due("behind it", x.value(2 + 8 * 9), "");
    set(x, "d1", "=U(a1:a10)");
    due("U", x.ofPlace(3, 10), 8);
    set(x, "e1", "=F(a1:a3,a5:a8)");
    due("F", x.value(4) + x.value(12), "abc");
    set(x, "e1", "=F(g1:g3,g1:g3)");
    due("F of nothing", x.value(4), "#none");
    due("no list came", x.ofPlace(4, 10), 0);
    set(x, "e1", "=F(b6:b8,a6:a7)");
    due("F of an empty one", x.value(4), "0");
    set(x, "e1", "=F(a1:a9,a6)");
    due("a missing partner", x.ofPlace(4, 10), 1);
    set(x, "e1", "=F(a6,a6)");
    due("F of one", x.value(4), "true");
    set(x, "e1", "=F(n0,a1)");
    due("F without a name", x.value(4), "#name");
    set(x, "e1", "=O(g1:g2)");
    due("O of nothing", x.value(4), "#none");
    set(x, "f1", "=S(d1#)");
    due("the first fault", x.value(5), "#zero");
    set(x, "f2", "=C(d1#,2)");
    due("C over a list", x.value(13), "1");
    set(x, "d3", "=''");
    due("barred", x.value(3), "#bar");
    due("nothing below", x.value(11) + x.source(11), "-1");
    due("# of a barred one", x.value(5), "#bar");
    Cellweave y = sheet("a1:1 a2:2 h19:=O(a1:a2) h20:5 g20:=O(a1:a2) g19:=O(a1)");
    due("barred by a cell", y.value(at("h19")), "#bar");
    due("barred by the end", y.value(at("g20")), "#bar");
    due("a list of one", y.value(at("g19")), "1");
    set(y, "a20", "=O(g19:g20)");
    due("barred by the end of the first column", y.value(at("a20")) + y.ofPlace(at("a20"), 10), "#bar0");
    y.clear(at("h20"));
    due("not barred", y.value(at("h19")) + y.value(at("h20")), "12");
    set(y, "c1", "=h20=2");
    due("an empty place that a list shows at", y.value(2), "true");
  }

  private static void needs() {
    edge("promise 30");
    Cellweave x = sheet("a1:1 a2:2 b1:=O(a1:a2) c1:=b2 c2:=b9 c3:=S(b1#) d1:5");
    due("needs()", x.needs(at("c1"), false), "1");
    due("needs() far below", x.needs(at("c2"), false), "1");
    due("needs() of #", x.needs(at("c3"), false), "1");
    due("needs() back", x.needs(1, true), "2 10 18");
    due("needs() of a list", x.needs(1, false), "0 8");
    due("needs() of an empty place", x.needs(at("b2"), true), "");
    due("needs() of a constant", x.needs(3, false), "");
    bad(x, "needs(160)", () -> x.needs(160, true));
    bad(x, "needs(-1)", () -> x.needs(-1, false));
    set(x, "b4", "1");
    due("another cell between", x.needs(at("c2"), false), "");
    due("# needs all below", x.needs(at("c3"), false), "1 25");
    set(x, "e1", "=I(T,1,a1)+S(n0)");
    x.name(0, 8, 8);
    due("what is not looked at, and names", x.needs(4, false), "0 8");
    edge("promise 31");
    Cellweave r = sheet("a1:=b1 b1:=c1+1 c1:=a1 d1:=a1 e1:=e1 f1:7");
    due("ring()", r.ring(0), "0 1 2");
    due("ring() of one", r.ring(4), "4");
    due("ring() of one that leans on it", r.ring(3), "");
    due("it shows", r.value(3), "#circle");
    due("ring() of a constant", r.ring(5), "");
    bad(r, "ring(160)", () -> r.ring(160));
    bad(r, "ring(-1)", () -> r.ring(-1));
    due("a list over itself", shows("", "=U(h19:h20)") + shows("", "=O(h1:h3)"), "#circle#none");
    edge("promise 29");
    due("levels", "" + r.ofPlace(0, 2) + r.ofPlace(5, 2) + r.ofPlace(6, 2), "-100");
    due("on a ring", "" + r.ofPlace(0, 3) + r.ofPlace(3, 3) + r.ofPlace(4, 3), "101");
    due("needs", "" + r.ofPlace(0, 4) + r.ofPlace(0, 5) + r.ofPlace(0, 6) + r.ofPlace(3, 6), "1240");
    due("kinds", "" + r.ofPlace(0, 0) + r.ofPlace(5, 0) + r.ofPlace(6, 0), "410");
    due("what stands", "" + r.ofPlace(0, 1) + r.ofPlace(5, 1) + r.ofPlace(6, 1) + x.ofPlace(1, 1), "2103");
    due("levels", "" + x.ofPlace(0, 2) + x.ofPlace(1, 2) + x.ofPlace(2, 2), "012");
    due("reckoned", "" + r.ofPlace(0, 9) + r.ofPlace(5, 9), "00");
    x.lock(159, true);
    x.check(0, 2, 3);
    due("locked, bad", "" + x.ofPlace(159, 7) + x.ofPlace(158, 7) + x.ofPlace(0, 8) + x.ofPlace(159, 8), "1010");
    bad(x, "ofPlace(0, 11)", () -> x.ofPlace(0, 11));
    bad(x, "ofPlace(0, -1)", () -> x.ofPlace(0, -1));
    bad(x, "ofPlace(160, 0)", () -> x.ofPlace(160, 0));
    bad(x, "ofPlace(-1, 0)", () -> x.ofPlace(-1, 0));
    edge("promise 32");
    due("source()", "" + x.source(0) + x.source(at("b2")) + x.source(at("b3")), "01-1");
    bad(x, "source(160)", () -> x.source(160));
    bad(x, "source(-1)", () -> x.source(-1));
  }

  private static void reckoned() {
    edge("promise 35");
    Cellweave x = sheet("a1:1 b1:=a1*0 c1:=b1+1 d1:=S(a1:a9) e1:=d1");
    set(x, "a1", "2");
    due("only what reads another value", x.reckoned(), "1 3 4");
    set(x, "a1", "4/2");
    due("an alike one", x.reckoned(), "");
    set(x, "c1", "=b1+1");
    due("what is written", x.reckoned(), "2");
    x.lock(0, true);
    due("lock() writes none", x.reckoned(), "");
    x.lock(0, false);
    x.name(0, 5, 6);
    due("name() writes all", x.reckoned(), "1 2 3 4");
    int ever = x.house(10);
    x.undo();
    due("undo() writes all", x.reckoned(), "1 2 3 4");
    due("ever", x.house(10), ever + 4);
    Cellweave r = sheet("a1:=b1 b1:=a1 c1:=a1");
    due("a ring is not reckoned", r.reckoned() + r.house(10), "1");
    r.clear(1);
    due("what showed #circle", r.reckoned(), "0 2");
    Cellweave l = sheet("a1:1 a2:2 b1:=O(a1:a4) c1:=C(b1#,9) d1:=b1");
    set(l, "a3", "3");
    due("another number of values", l.reckoned(), "1 2");
    set(l, "b2", "7");
    due("a list that becomes barred", l.reckoned(), "2 3");
    l.clear(at("b2"));
    due("and is no more", l.reckoned(), "2 3");
    set(l, "b1", "1");
    due("no list any more", l.reckoned(), "2");
  }

  private static void edits() {
    edge("promise 8");
    Cellweave x = sheet("a1:1 b1:=a1 c1:=b1");
    due("clear()", x.clear(0), 2);
    due("clear() again", x.clear(0), 0);
    due("edits", x.house(8), 5);
    x.lock(1, true);
    due("clear() of a locked place", x.clear(1), -9);
    x.lock(99, true);
    due("clear() of an empty locked place", x.clear(99), -9);
    bad(x, "clear(160)", () -> x.clear(160));
    bad(x, "clear(-1)", () -> x.clear(-1));
    edge("promise 10");
    Cellweave f = sheet("b2:=a1");
    due("fill()", f.fill(at("b2"), at("c3"), at("a2")), 5);
    due("all()", f.all(), "a2:=?;b2:=a1;c2:=b1;a3:=?;b3:=a2;c3:=b2");
    due("fill() of its own", f.fill(at("b2"), at("b2"), at("b2")), 0);
    due("edits", f.house(8), 3);
    f.lock(at("b2"), true);
    due("fill() from a locked place", f.fill(at("b2"), at("b2"), at("c2")), 1);
    due("fill() over a locked place", f.fill(at("c2"), at("b2"), at("c2")), -9);
    due("fill() of nothing", f.fill(159, at("c2"), at("c3")), 2);
    due("cells", f.house(0), 4);
    due("fill() of too many", f.fill(at("a2"), 0, at("h8")), -9);
    bad(f, "fill(-1)", () -> f.fill(-1, 0, 0));
    bad(f, "fill(0, 160)", () -> f.fill(0, 160, 0));
    bad(f, "fill(0, 0, -1)", () -> f.fill(0, 0, -1));
    edge("promise 11");
    Cellweave g = sheet("a1:1/2 a2:1/3 b1:1 b2:=2 c1:5 c2:5 d18:1 d19:2 e1:1 e2:T");
    due("goOn()", g.goOn(0, 3), "-1/6");
    due("all", g.value(at("a3")) + " " + g.value(at("a4")), "1/6 0");
    due("goOn() of a formula", g.goOn(1, 3), "-9");
    due("goOn() of a text", g.goOn(4, 1), "-9");
    due("goOn() of nothing", g.goOn(6, 1), "-9");
    due("goOn()", g.goOn(2, 18), "5");
    due("goOn() to the end", g.goOn(at("d18"), 1), "3");
    due("goOn() beyond", g.goOn(at("d18"), 2), "-9");
    due("goOn() at the end", g.goOn(at("d20"), 1), "-9");
    g.lock(at("a9"), true);
    due("goOn() to a locked place", g.goOn(at("a3"), 5), "-9");
    due("nothing is changed", g.value(at("a6")), "");
    bad(g, "goOn(160)", () -> g.goOn(160, 1));
    bad(g, "goOn(-1)", () -> g.goOn(-1, 1));
    bad(g, "goOn(0, 0)", () -> g.goOn(0, 0));
    bad(g, "goOn(0, 19)", () -> g.goOn(0, 19));
    Cellweave m = sheet("a1:1 a2:-4");
    int edits = m.house(8);
    due("the number -9", m.goOn(0, 1), "-9");
    due("is an edit", m.house(8), edits + 1);
    due("seven digits are a number", sheetOfMillion().ofPlace(at("a3"), 0), 1);
    due("a full sheet", full().goOn(at("d1"), 7), "-9");
    due("what stands there is written over", full().goOn(at("d1"), 6), "7");
  }

  private static Cellweave sheetOfMillion() {
    Cellweave x = sheet("a1:1 a2:999999");
    due("goOn()", x.goOn(0, 1), "1999997");
    return x;
  }

  private static void lines() {
    edge("promise 12");
    Cellweave x = sheet("a1:1 b3:=S(a1:a4)&a3&$a$2 c4:=O(a1)");
    x.name(0, at("b5"), at("a2"));
    x.lock(at("d3"), true);
    x.check(at("e3"), 1, 2);
    due("putIn()", x.putIn(false, 2), 2);
    due("all()", x.all(), "a1:1;b4:=S(a1:a5)&a4&$a$2;c5:=O(a1)");
    due("named()", x.named(0), "a2:b6");
    due("lock", "" + x.ofPlace(at("d3"), 7) + x.ofPlace(at("d4"), 7), "01");
    set(x, "e4", "9");
    due("check", x.bad(), "" + at("e4"));
    x.clear(at("e4"));
    due("putIn() of a column", x.putIn(true, 0), 3);
    due("all()", x.all(), "b1:1;c4:=S(b1:b5)&b4&$b$2;d5:=O(b1)");
    bad(x, "putIn(20)", () -> x.putIn(false, 20));
    bad(x, "putIn(8)", () -> x.putIn(true, 8));
    bad(x, "putIn(-1)", () -> x.putIn(true, -1));
    for (String last : new String[] {"a20:1", "a1:=h20", "a1:=S(a1:b20)", "b7:=S(a20#)"}) {
      due("putIn() with " + last, sheet(last).putIn(false, 19), -9);
    }
    Cellweave y = new Cellweave();
    y.lock(159, true);
    due("putIn() with a lock", "" + y.putIn(false, 19) + y.putIn(true, 7), "-9-9");
    y.lock(159, false);
    y.check(158, 1, 1);
    due("putIn() with a check", "" + y.putIn(false, 3) + y.putIn(true, 7), "-90");
    Cellweave z = new Cellweave();
    z.name(2, at("h1"), at("a3"));
    due("putIn() with a name", "" + z.putIn(true, 0) + z.putIn(false, 0), "-90");
    edge("promise 13");
    Cellweave t = sheet("a1:1 a2:2 b2:3 c1:=S(a1:b2)&a2 d1:=S(a2:b1) e1:=S(a2:b2) e4:=C(a2#,a3)");
    t.name(0, at("a2"), at("c2"));
    t.name(1, at("a2"), at("c3"));
    t.check(at("a3"), 5, 5);
    due("takeOut()", t.takeOut(false, 1), 2);
    due("all()", t.all(), "a1:1;c1:=S(a1:b1)&?;d1:=S(a1:b1);e1:=S(?);e3:=C(?,a2)");
    due("values", t.value(2) + t.value(3) + t.value(4), "#gone1#gone");
    due("names", t.named(0) + t.named(1), "a2:c2");
    t.copy(0, at("a2"));
    due("check", t.bad(), "8");
    t.lock(at("h9"), true);
    due("takeOut() with a lock", "" + t.takeOut(false, 8) + t.takeOut(true, 7), "-9-9");
    due("takeOut() ahead of it", t.takeOut(false, 7), 0);
    due("the lock goes on", t.ofPlace(at("h8"), 7), 1);
    bad(t, "takeOut(20)", () -> t.takeOut(false, 20));
    bad(t, "takeOut(-1)", () -> t.takeOut(false, -1));
    bad(t, "takeOut(8)", () -> t.takeOut(true, 8));
    Cellweave u = sheet("h1:=S(a1:c$3)+S($c3:a1)");
    u.takeOut(true, 2);
    due("greater corners", u.all(), "g1:=S(a1:b$3)+S($b3:a1)");
    u.takeOut(true, 0);
    due("lesser corners", u.all(), "f1:=S(a1:a$3)+S($a3:a1)");
    u.takeOut(true, 0);
    due("both corners", u.all(), "e1:=S(?)+S(?)");
    edge("promise 14");
    Cellweave m = sheet("a1:1 a2:2 a3:3 b1:=S(a1:a2)&a3 h20:=a1");
    m.name(0, at("a1"), at("b2"));
    m.lock(at("c1"), true);
    due("move()", m.move(false, 0, 2), 4);
    due("all()", m.all(), "a1:2;a2:3;a3:1;b3:=S(a3:a1)&a2;h20:=a3");
    due("a range goes with its corners", m.value(at("b3")), "63");
    due("named()", m.named(0), "a1:b3");
    due("lock", m.ofPlace(at("c3"), 7), 1);
    due("move() back", m.move(false, 2, 0), 4);
    due("move() to itself", m.move(true, 0, 0), 0);
    due("move() of a column", m.move(true, 7, 0), 5);
    due("all()", m.all(), "b1:1;c1:=S(b1:b2)&b3;b2:2;b3:3;a20:=b1");
    bad(m, "move(8, 0)", () -> m.move(true, 8, 0));
    bad(m, "move(0, 8)", () -> m.move(true, 0, 8));
    bad(m, "move(-1, 0)", () -> m.move(false, -1, 0));
    bad(m, "move(0, 20)", () -> m.move(false, 0, 20));
  }

  private static void sorts() {
    edge("promise 15");
    Cellweave x = sheet("a1:5 b1:a a2:abc b2:b a4:5 b4:c a5:-1 c3:7 h9:=a1");
    x.check(at("a1"), 0, 9);
    x.name(0, 0, 1);
    due("sort()", x.sort(0, 5, 0), 5);
    due("all()", x.all(), "a1:-1;a2:5;b2:a;a3:5;b3:c;a4:abc;b4:b;c5:7;h9:=a1");
    due("named()", x.named(0), "a1:b1");
    due("bad()", x.bad(), "0");
    due("sort() again", x.sort(0, 5, 0), 0);
    due("sort() with a formula", x.sort(6, 9, 0), -9);
    x.lock(at("g6"), true);
    due("sort() with a lock", x.sort(0, 5, 0), -9);
    due("sort() of one row", x.sort(4, 4, 7), 0);
    bad(x, "sort(-1)", () -> x.sort(-1, 3, 0));
    bad(x, "sort(20)", () -> x.sort(20, 20, 0));
    bad(x, "sort(3, 2)", () -> x.sort(3, 2, 0));
    bad(x, "sort(3, 20)", () -> x.sort(3, 20, 0));
    bad(x, "sort(column 8)", () -> x.sort(3, 4, 8));
    bad(x, "sort(column -1)", () -> x.sort(3, 4, -1));
    Cellweave y = sheet("h1:9 h2:3 h3:6 a1:=U(h1:h3) b2:1 b3:2");
    due("sort() by what a list shows", y.sort(1, 2, 0), 0);
    set(y, "h2", "8");
    due("sort() by what a list shows", y.sort(1, 2, 0), 2);
    due("all()", y.all(), "a1:=U(h1:h3);h1:9;b2:2;h2:6;b3:1;h3:8");
  }

  private static void names() {
    edge("promise 16");
    Cellweave x = sheet("a1:1 b2:2 c1:=S(n3)");
    due("before", x.value(2), "#name");
    due("name()", x.name(3, at("b1"), at("a2")), 0);
    due("value()", x.value(2), "3");
    due("name() again", x.name(3, 0, 0), 1);
    due("value()", x.value(2), "1");
    edge("promise 37");
    due("named()", x.named(3), "a1:a1");
    due("named()", x.named(2), "");
    bad(x, "named(6)", () -> x.named(6));
    bad(x, "named(-1)", () -> x.named(-1));
    edge("promise 16");
    due("name(NONE)", x.name(3, -1, 999), 1);
    due("name(NONE)", x.name(3, -1, -5), 0);
    due("value()", x.value(2), "#name");
    bad(x, "name(6)", () -> x.name(6, 0, 0));
    bad(x, "name(-1)", () -> x.name(-1, 0, 0));
    bad(x, "name(0, -2)", () -> x.name(0, -2, 0));
    bad(x, "name(0, 160)", () -> x.name(0, 160, 0));
    bad(x, "name(0, 0, -1)", () -> x.name(0, 0, -1));
    bad(x, "name(0, 0, 160)", () -> x.name(0, 0, 160));
    edge("promise 17");
    due("lock()", "" + x.lock(5, true) + x.lock(5, true) + x.lock(5, false) + x.lock(5, false), "0110");
    bad(x, "lock(160)", () -> x.lock(160, true));
    bad(x, "lock(-1)", () -> x.lock(-1, true));
    edge("promise 18");
    due("check()", "" + x.check(0, 0, 0) + x.check(0, 1, 1) + x.check(0, 2, 9) + x.check(0, 2, 1), "1010");
    due("check() of an empty place", x.check(99, 5, 6), 0);
    due("check() of a fault", x.check(2, -5, 6), 1);
    due("check() of the greatest", x.check(0, Integer.MIN_VALUE, Integer.MAX_VALUE), 0);
    set(x, "a1", "3/2");
    due("check() of a fraction", "" + x.check(0, 1, 2) + x.check(0, 2, 2) + x.check(0, 1, 1), "011");
    edge("promise 36");
    due("bad()", x.bad(), "0 2");
    bad(x, "check(160)", () -> x.check(160, 0, 0));
    bad(x, "check(-1)", () -> x.check(-1, 0, 0));
  }

  private static void goals() {
    edge("promise 19");
    Cellweave x = sheet("a1:1 b1:=a1*a1 c1:=T");
    due("goal()", x.goal(0, 1, -5, 5, 9), -3);
    due("value()", x.value(0), "-3");
    due("reckoned()", x.reckoned(), "1");
    due("goal() without one", x.goal(0, 1, 0, 20, 8), -10000);
    due("nothing is changed", x.value(0), "-3");
    due("goal() of itself", x.goal(4, 4, -999, -979, -980), -980);
    due("goal() of a truth", x.goal(0, 2, 0, 5, 1), -10000);
    due("goal() far out", x.goal(4, 4, 999, 1019, 1019), 1019);
    int edits = x.house(8);
    due("the number -9", x.goal(0, 0, -9, -9, -9), -9);
    due("is an edit", x.house(8), edits + 1);
    x.lock(0, true);
    due("goal() at a locked place", x.goal(0, 1, 0, 5, 77), -9999);
    bad(x, "goal(-1)", () -> x.goal(-1, 0, 0, 0, 0));
    bad(x, "goal(0, 160)", () -> x.goal(0, 160, 0, 0, 0));
    bad(x, "goal(from -1000)", () -> x.goal(0, 0, -1000, -990, 0));
    bad(x, "goal(from 1000)", () -> x.goal(0, 0, 1000, 1000, 0));
    bad(x, "goal(to below)", () -> x.goal(0, 0, 5, 4, 0));
    bad(x, "goal(to beyond)", () -> x.goal(0, 0, 5, 26, 0));
    due("goal() with a 61st cell", full().goal(159, 0, 1, 2, 7), -9999);
    edge("promise 34");
    due("whatIf()", x.whatIf(0, 1, -1, 2, 3), "1 1 9");
    due("whatIf() of an empty place", x.whatIf(0, 150, 0, 0, 3), "  ");
    due("nothing is changed", x.value(0), "-9");
    due("whatIf() with a 61st cell", full().whatIf(159, 159, 999, -999, 6), "999 0 -999 -1998 -2997 -3996");
    bad(x, "whatIf(160)", () -> x.whatIf(160, 0, 0, 0, 1));
    bad(x, "whatIf(0, -1)", () -> x.whatIf(0, -1, 0, 0, 1));
    bad(x, "whatIf(from)", () -> x.whatIf(0, 0, 1000, 0, 1));
    bad(x, "whatIf(step)", () -> x.whatIf(0, 0, 0, -1000, 1));
    bad(x, "whatIf(many 0)", () -> x.whatIf(0, 0, 0, 0, 0));
    bad(x, "whatIf(many 7)", () -> x.whatIf(0, 0, 0, 0, 7));
  }

  private static void versions() {
    edge("promise 26");
    Cellweave x = sheet("a1:1 a2:2");
    x.name(0, 0, 8);
    int edits = x.house(8);
    due("keep()", x.keep(0), 2);
    due("keep() again", x.keep(0), 0);
    due("no edit", x.house(8), edits);
    bad(x, "keep(3)", () -> x.keep(3));
    bad(x, "keep(-1)", () -> x.keep(-1));
    edge("promise 38");
    set(x, "a1", "3");
    set(x, "c9", "=a1");
    due("differs()", x.differs(0), "0 66");
    due("differs() of an empty one", x.differs(1), "0 8 66");
    bad(x, "differs(3)", () -> x.differs(3));
    bad(x, "differs(-1)", () -> x.differs(-1));
    edge("promise 20");
    x.keep(1);
    x.name(0, -1, 0);
    x.lock(0, true);
    due("back()", x.back(0), 2);
    due("all()", x.all(), "a1:1;a2:2");
    due("named()", x.named(0), "a1:a2");
    due("lock", x.ofPlace(0, 7), 1);
    due("back() to the empty one", x.back(2), 2);
    due("all()", x.all() + x.named(0), "");
    bad(x, "back(3)", () -> x.back(3));
    bad(x, "back(-1)", () -> x.back(-1));
    Cellweave t = sheetOfMillion();
    t.keep(0);
    set(t, "a3", "1999997");
    due("a text", t.ofPlace(at("a3"), 0), 2);
    due("of the same look", t.differs(0), "");
    due("back()", t.back(0), 0);
    due("stays what it is", t.ofPlace(at("a3"), 0), 2);
    t.back(2);
    t.back(0);
    due("a constant stays the value that it is", t.ofPlace(at("a3"), 0), 1);
    edge("promise 21");
    Cellweave j = sheet("a1:1 a2:2 a3:3 a4:4");
    j.name(0, 0, 0);
    j.name(1, 1, 1);
    j.keep(0);
    set(j, "a1", "11");
    set(j, "a2", "12");
    set(j, "b1", "=a1");
    j.clear(at("a4"));
    j.name(0, 2, 2);
    j.keep(1);
    j.back(0);
    set(j, "a2", "22");
    set(j, "a3", "23");
    j.clear(at("a4"));
    j.name(1, 3, 3);
    due("join()", j.join(0, 1), 1);
    due("all()", j.all(), "a1:11;b1:=a1;a2:22;a3:23");
    due("names", j.named(0) + j.named(1), "c1:c1d1:d1");
    bad(j, "join(3, 0)", () -> j.join(3, 0));
    bad(j, "join(0, -1)", () -> j.join(0, -1));
    Cellweave f = full();
    f.keep(0);
    f.back(2);
    set(f, "h20", "1");
    due("join() of too many", f.join(1, 0), -9);
    due("nothing is changed", f.all(), "h20:1");
  }

  private static void groups() {
    edge("promise 22");
    Cellweave x = new Cellweave();
    due("open()", x.open(), 0);
    set(x, "a1", "1");
    set(x, "a2", "2");
    due("open() ends the open one", x.open(), 1);
    edge("promise 23");
    due("close() of nothing", x.close(), 1);
    due("close() again", x.close(), -1);
    set(x, "a3", "3");
    due("groups", x.house(8), 2);
    edge("promise 24");
    due("undo()", x.undo(), 1);
    due("all()", x.all(), "a1:1;a2:2");
    due("undo() of a group", x.undo(), 0);
    due("all()", x.all(), "");
    due("what can be done again", x.house(9), 2);
    x.open();
    notNow(x, "undo() of nothing", () -> x.undo());
    due("the group is still open", x.close(), 0);
    edge("promise 25");
    x.open();
    due("redo()", x.redo(), 1);
    due("the group has ended", x.close(), -1);
    due("all()", x.all(), "a1:1;a2:2");
    due("redo()", x.redo(), 0);
    x.open();
    notNow(x, "redo() of nothing", () -> x.redo());
    due("the group is still open", x.close(), 2);
    x.undo();
    set(x, "h1", "1");
    notNow(x, "redo() behind an edit", () -> x.redo());
    edge("promise 24");
    for (int i = 0; i < 20; i++) {
      set(x, "b1", "" + i);
    }
    due("groups", x.house(8), 12);
    for (int i = 0; i < 12; i++) {
      due("undo()", x.undo(), 11 - i);
    }
    due("value()", x.value(1), "7");
    for (int i = 0; i < 12; i++) {
      due("redo()", x.redo(), 11 - i);
    }
    due("value()", x.value(1), "19");
    x.open();
    set(x, "b1", "30");
    x.lock(5, true);
    x.name(0, 1, 2);
    x.check(1, 9, 9);
    due("undo() of the open group", x.undo(), 11);
    due("all is as ahead of it", x.value(1) + x.ofPlace(5, 7) + x.named(0) + x.bad(), "190");
    set(x, "b1", "31");
    set(x, "b1", "32");
    x.undo();
    due("it has ended", x.value(1), "31");
    type(x, "=1");
    x.keep(0);
    x.undo();
    due("the input stays", x.input(), "=1");
    due("versions stay", x.differs(0), "1");
  }

  private static void reasons() {
    edge("promise 33");
    Cellweave x = sheet("a1:1 a2:0 b1:=a1+a2 c1:=I(b1<5,a1,a3) a3:9 d1:=N(a1)");
    due("reason()", x.reason(at("c1")), "0 2");
    due("reason() of a sum", x.reason(1), "0 1");
    due("reason() of a constant", x.reason(0), "0");
    due("reason() of nothing", x.reason(99), "");
    due("reason() that needs nothing", x.reason(3), "3");
    bad(x, "reason(160)", () -> x.reason(160));
    bad(x, "reason(-1)", () -> x.reason(-1));
    Cellweave r = sheet("a1:=b1+c1 b1:=a1 c1:=a1");
    due("reason() of a ring", r.reason(0), "0 1");
    Cellweave l = sheet("a1:3 a2:1 a3:3 b1:=U(a1:a4) b3:9");
    due("reason() of what spills", l.reason(9), "0 1 8");
    set(l, "b2", "5");
    due("reason() of a bar", l.reason(1), "0 1 8 9");
    Cellweave n = sheet("b1:1 a1:=S(n0)");
    n.name(0, 1, 2);
    due("reason() by a name", n.reason(0), "0 1");
  }

  private static void questions() {
    edge("promise 39");
    Cellweave x = sheet("h20:1/2 a1:=h20 b1:abc");
    due("all()", x.all(), "a1:=h20;b1:abc;h20:1/2");
    edge("promise 40");
    x = sheet("a1:1 a2:=a1 a3:=1/0 c1:=c2 c2:=c1 e1:=O(a3:a4) f1:=O(b1:b2) g1:=a2");
    final Cellweave y = x;
    x.lock(9, true);
    x.check(0, 5, 6);
    x.name(5, 1, 1);
    StringBuilder b = new StringBuilder();
    for (int what = 0; what <= 11; what++) {
      b.append(x.house(what)).append(' ');
    }
    due("house()", b.toString(), "8 7 5 2 2 1 1 1 11 0 11 0 ");
    due("house(4) without cells", new Cellweave().house(4), -1);
    due("house(4) of rings", sheet("a1:=a1").house(4), -1);
    due("house(4) of a constant", sheet("a1:1").house(4), 0);
    bad(x, "house(12)", () -> y.house(12));
    bad(x, "house(-1)", () -> y.house(-1));
    Cellweave s = sheet("a1:=1/0 a2:=2/0 b1:=O(a1:a2)");
    due("faults that a list shows", s.house(2), 4);
    edge("promise 41");
    due("knock()", "" + x.knock() + x.knock() + x.knock(), "123");
    due("house(11)", x.house(11), 3);
    edge("promise 42");
    due("isSound()", x.isSound(), true);
    due("isSound() of nothing", new Cellweave().isSound(), true);
    Cellweave g = sheet("b2:=S(a1:a9)&C(b6#,a1)&'a6' b7:=a7");
    g.copy(at("b2"), 0);
    due("isSound() with what is gone", g.isSound(), true);
    due("it tries only", g.reckoned() + g.house(8), "0 93");
    edge("promise 43");
    due("digest()", new Cellweave().digest(), emptyDigest());
    type(x, "=1+");
    due("digest() again", x.digest(), x.digest());
  }

  private static long emptyDigest() {
    long d = 5800L;
    long[] all = {0, 0, 0, 0, -1, 0, 0, 0, 0, 0, 0, 0, 0, 0, 0, 0, 0, 0, 0, 0, 0, 0, 0, 0, 0, 1};
    for (long v : all) {
      d = d * 31 + v;
    }
    return d;
  }
}
