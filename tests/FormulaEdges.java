/** Edges of sections 1 and 2: what VALUES there are, and what a formula gives. */
public final class FormulaEdges extends Bench {
  // 2 to the power of 45; b1 to b5 hang on it: 2^90 - 1, its negative, 2^89, 2^45 - 1, 2^45 + 1.
  private static final String POWERS = "a1:=1024*1024*1024*1024*32 b4:=a1-1 b5:=a1+1 b1:=b4*b5 b2:=-b1 b3:=a1/2*a1 ";
  private static final String LONGEST = "1237940039285380274899124223";

  public static void main(String[] args) {
    longNumbers();
    shownDigits();
    longBottoms();
    longTexts();
    emptyTexts();
    alike();
    emptyPlaces();
    spilledPlaces();
    faultsOfOperands();
    kinds();
    division();
    joins();
    equals();
    less();
    order();
    choices();
    faultsAsked();
    rangeFaults();
    hashRanges();
    sums();
    exactSums();
    leastAndGreatest();
    counts();
    lookUps();
    ordered();
    unique();
    filtered();
    noValues();
    spills();
    spillsAtTheEnd();
    end();
  }

  private static void all(String cells, String[][] all) {
    for (String[] one : all) {
      due(one[0], shows(cells, one[0]), one[1]);
    }
  }

  private static void longNumbers() {
    edge("if top or bottom has more than 90 binary digits, it is \"#long\" instead");
    all(POWERS, new String[][] {
        {"=b1", LONGEST}, {"=b2", "-" + LONGEST}, {"=a1*a1", "#long"}, {"=b1+1", "#long"}, {"=b1+0", LONGEST},
        {"=b2-1", "#long"}, {"=b2-0", "-" + LONGEST}, {"=-b1", "-" + LONGEST}, {"=b3", "618970019642690137449562112"},
        {"=b3+b3", "#long"}, {"=b3-1+b3", LONGEST}, {"=b3+b3-1", "#long"}, {"=-b3-b3", "#long"}, {"=b3*2", "#long"},
        {"=b3*1", "618970019642690137449562112"}, {"=b1*-1", "-" + LONGEST}, {"=b1/-1", "-" + LONGEST}, {"=a1*a1/2", "#long"},
        {"=b1-b1", "0"}, {"=b1+b2", "0"}, {"=b1/b1", "1"}, {"=b1/b2", "-1"}, {"=b1/2", LONGEST + "/2"}, {"=b1/2+b1/2", LONGEST},
        {"=b1/2+b1", "#long"}, {"=b1/2*2", LONGEST}, {"=b1*2/2", "#long"}, {"=b1+1/2", "#long"}, {"=b1-1/2", "#long"},
        {"=b1<b3", "false"}, {"=b3<b1", "true"}, {"=b2<b1", "true"}, {"=b1/2<b1/3", "false"}, {"=b1=b4*b5", "true"},
        {"=b3=b3/2", "false"}, {"=b1=b1-1", "false"}, {"=b1-1<b1", "true"}, {"=b1<b1-1", "false"}, {"=b2<b2+1", "true"}, {"=b2+1<b2", "false"},
        {"=b1-(b1-1)", "1"}, {"=b1-1-b1", "-1"}, {"=M(b1:b3)", LONGEST}, {"=L(b1:b3)", "-" + LONGEST},
        {"=b1+1=1", "#long"}, {"=N(b1+1)", "true"}, {"=N(b1)", "false"}, {"=b1*b1", "#long"}, {"=b1*b1*0", "#long"}, {"=b1*0", "0"},
    });
  }

  private static void shownDigits() {
    edge("Shown: a NUMBER as its top, and, if the bottom is not 1, \"/\" and the bottom");
    Cellweave x = sheet("a1:1");
    String zeros = "";
    for (int i = 1; i <= 27; i++) {
      zeros += "0";
      int row = i % 20;
      int column = i / 20;
      int before = (i - 1) % 20 * 8 + (i - 1) / 20;
      type(x, "=" + Model.shown(before) + "*10");
      x.put(row * 8 + column);
      due("a power of ten", x.value(row * 8 + column), "1" + zeros);
      type(x, "=" + Model.shown(row * 8 + column) + "-1");
      x.put(LAST);
      due("one less", x.value(LAST), "9" + zeros.replace('0', '9').substring(1));
      type(x, "=-7/" + Model.shown(row * 8 + column));
      x.put(LAST);
      due("below", x.value(LAST), "-7/1" + zeros);
    }
    all("", new String[][] {{"=0/7", "0"}, {"=7/7", "1"}, {"=-7/7", "-1"}, {"=10/4", "5/2"}});
  }

  private static void longBottoms() {
    edge("if top or bottom has more than 90 binary digits, it is \"#long\" instead (the bottom)");
    all(POWERS, new String[][] {
        {"=1/b1", "1/" + LONGEST}, {"=1/b2", "-1/" + LONGEST}, {"=1/a1/a1", "#long"}, {"=1/b3", "1/618970019642690137449562112"},
        {"=1/b3/2", "#long"}, {"=2/b3/2", "1/618970019642690137449562112"}, {"=1/b1/2", "#long"}, {"=1/b1+1/2", "#long"},
        {"=1/b1+1/3", "412646679761793424966374742/" + LONGEST}, {"=1/b3+1/2", "309485009821345068724781057/618970019642690137449562112"},
        {"=1/b3+1/b3", "1/309485009821345068724781056"}, {"=1/b1-1/b1", "0"}, {"=b1/b3", LONGEST + "/618970019642690137449562112"},
        {"=b3/b1", "618970019642690137449562112/" + LONGEST}, {"=b3/b1*b1", "618970019642690137449562112"}, {"=b1/b3*b3/b1", "1"},
        {"=1/b4-1/b5", "2/" + LONGEST}, {"=1/b4*1/b5", "1/" + LONGEST}, {"=1/b4/b5", "1/" + LONGEST}, {"=1/a1*1/a1", "#long"},
        {"=1/b5", "1/35184372088833"}, {"=3/b5", "1/11728124029611"}, {"=1/(a1*1024*32+1)", "1/1152921504606846977"}, {"=1/b3=2/b3", "false"},
        {"=1/b3=1/b3", "true"}, {"=1/b1=1/(b1-1)", "false"}, {"=1/b1<1/(b1-1)", "true"}, {"=1/(b1-1)<1/b1", "false"},
        {"=1/b1<1/b3", "true"}, {"=1/b3<1/b1", "false"}, {"=-1/b1<0", "true"},
    });
  }

  private static void longTexts() {
    edge("Texts of at most 16 signs (longer: \"#long\")");
    all(POWERS + "c1:abcdefghabcdefgh", new String[][] {
        {"=c1", "abcdefghabcdefgh"}, {"=c1&''", "abcdefghabcdefgh"}, {"=c1&'a'", "#long"}, {"='a'&c1", "#long"},
        {"='abcdefgha'&'abcdefg'", "abcdefghaabcdefg"}, {"='abcdefgha'&'abcdefgh'", "#long"}, {"=b1&''", "#long"},
        {"=1/b1&''", "#long"}, {"=c1&d1", "abcdefghabcdefgh"}, {"=c1&1/0", "#zero"}, {"=c1&'a'&1/0", "#long"},
        {"=N(c1&'a')", "true"}, {"=9999*9999*9999*9999&''", "9996000599960001"}, {"=9999*9999*9999*9999*11&''", "#long"},
        {"=-9999*9999*9999*9999&''", "#long"}, {"=T&X&T&'abc'", "truefalsetrueabc"}, {"=T&X&T&'abcd'", "#long"},
    });
  }

  private static void emptyTexts() {
    edge("a text without signs is something that is shown, EMPTY is not");
    Cellweave x = sheet("a1:='' a2:=c1&c2");
    due("kind", "" + x.ofPlace(0, 0) + x.ofPlace(8, 0) + x.ofPlace(16, 0), "220");
    due("value()", x.value(0) + x.value(8), "");
    due("check() of it", x.check(0, -5, 5), 1);
    due("check() of an EMPTY one", x.check(2, -5, 5), 0);
    all("a1:='' b1:=O(a1:a3)", new String[][] {{"=a1=''", "true"}, {"=a1=a2", "false"}, {"=a2=''", "false"}, {"=a1+1", "#kind"},
        {"=a2+1", "1"}, {"=C(a1:a9,'')", "1"}, {"=C(b1#,'')", "1"}, {"=b1", ""}, {"=a1<'a'", "true"}, {"=-a1", "#kind"},
        {"=I(a1,1,2)", "#kind"}, {"=K('',a1:a2,a2:a3)", "0"}});
    due("a LIST has it", sheet("a1:='' b1:=O(a1:a3)").ofPlace(1, 10), 1);
    edge("RECKONED: READ a PLACE that shows another VALUE (not ALIKE) than ahead of it (EMPTY and a text without signs)");
    Cellweave y = sheet("b1:=a1&'a'");
    set(y, "a1", "=''");
    due("reckoned()", y.reckoned(), "0 1");
    y.clear(0);
    due("reckoned()", y.reckoned(), "1");
  }

  private static void alike() {
    edge("Two VALUES are ALIKE, if they are of one kind and shown the same");
    all("a1:1 a2:=1&'' a3:=T&'' a4:=2/2 a5:1234567 a6:abc", new String[][] {
        {"=a1=a2", "false"}, {"=a1=a4", "true"}, {"=a2='1'", "true"}, {"=a3=T", "false"}, {"=a3=T&''", "true"}, {"=T=T", "true"},
        {"=T=X", "false"}, {"=X=X", "true"}, {"=T=1", "false"}, {"=X=0", "false"}, {"=a5=1234*1000+567", "false"},
        {"=1/3=2/6", "true"}, {"=1/3=1/4", "false"}, {"=1/3=2/3", "false"}, {"=1=-1", "false"}, {"=a6='abc'", "true"},
        {"=a6='ab'", "false"}, {"=a6='abcd'", "false"}, {"=a6='abd'", "false"}, {"=a6='Tbc'", "false"}, {"=0=-0", "true"},
        {"=('abcdefgha'='abcdefgha')&(a1=1)", "truetrue"}, {"=('abcdefgha'='hgfedcbah')&(1=a1)", "falsetrue"}, {"=a1&(1=a1)", "1true"},
        {"=C(a1:a6,1)", "2"}, {"=C(a1:a6,'1')", "1"}, {"=C(a1:a6,T)", "0"}, {"=C(a1:a6,a3)", "1"},
    });
  }

  private static void emptyPlaces() {
    edge("in all but \"&\", \"=\" and ranges EMPTY counts as the NUMBER 0, also if it is all of a formula");
    all("a1:0 a3:0", new String[][] {
        {"=c1", "0"}, {"=(c1)", "0"}, {"=((c1))", "0"}, {"=-c1", "0"}, {"=--c1", "0"}, {"=c1+5", "5"}, {"=5+c1", "5"}, {"=5-c1", "5"},
        {"=c1-5", "-5"}, {"=c1*5", "0"}, {"=5*c1", "0"}, {"=c1/5", "0"}, {"=5/c1", "#zero"}, {"=c1/c2", "#zero"}, {"=c1<1", "true"},
        {"=c1<0", "false"}, {"=0<c1", "false"}, {"=-1<c1", "true"}, {"=c1<c2", "false"}, {"=c1<'a'", "#kind"}, {"=T<c1", "#kind"},
        {"=c1+'a'", "#kind"}, {"=I(c1,1,2)", "#kind"}, {"=N(c1)", "false"}, {"=C(a1:a3,c1)", "2"}, {"=C(a1:a3,(c1))", "2"},
        {"=K(c1,a1:a3,a1:a3)", "0"}, {"=K(c1,c1:c9,a1:a3)", "#none"}, {"=c1+c2", "0"}, {"=c1-c2", "0"}, {"=c1*c2", "0"},
    });
    due("kind", sheet("a1:=c1").ofPlace(0, 0), 1);
    edge("in \"&\" it is \"\"");
    all("", new String[][] {{"=c1&'a'", "a"}, {"='a'&c1", "a"}, {"=c1&c2", ""}, {"=(c1)&1", "1"}, {"=c1+0&1", "01"}, {"=-c1&1", "01"},
        {"=c1&c2=''", "true"}, {"=I(T,c1,1)&1", "01"}, {"=1&(c1)&2", "12"}, {"=S(a1)&1", "01"}});
    edge("in \"=\" it is EMPTY (brackets leave it as it is; I gives 0 for it)");
    all("a1:0 a2:=''", new String[][] {{"=c1=c2", "true"}, {"=c1=0", "false"}, {"=0=c1", "false"}, {"=c1=a1", "false"}, {"=c1=a2", "false"},
        {"=(c1)=c2", "true"}, {"=((c1))=(c2)", "true"}, {"=(c1)=0", "false"}, {"=I(T,c1,5)=c2", "false"}, {"=I(T,c1,5)=0", "true"},
        {"=I(X,5,c1)=0", "true"}, {"=I(X,5,(c1))=0", "true"}, {"=-c1=0", "true"}, {"=-c1=c2", "false"}, {"=c1+c2=0", "true"},
        {"=c1*1=0", "true"}, {"=c1=X", "false"}, {"=c1=''", "false"}, {"=c1=1/0", "#zero"}});
    edge("S, L, M, C, O: EMPTY does not count in ranges");
    all("", new String[][] {{"=S(c1:c9)", "0"}, {"=L(c1:c9)", "#none"}, {"=M(c1:c9)", "#none"}, {"=C(c1:c9,0)", "0"}, {"=C(c1:c9,d1)", "0"},
        {"=C(c1:c9,'')", "0"}, {"=K(0,c1:c9,c1:c9)", "#none"}, {"=K(d1,c1:c9,c1:c9)", "#none"}});
    all("a1:1", new String[][] {{"=L(a1:c9)", "1"}});
    all("a1:-1", new String[][] {{"=M(a1:c9)", "-1"}});
  }

  private static void spilledPlaces() {
    edge("in this section one to which a LIST spills is not EMPTY");
    all("a1:='' a2:5 a3:=T b1:=F(a1:a3,c1:c3) c1:=T c2:=T c3:=T d1:=O(a1:a3)", new String[][] {
        {"=b2", "5"}, {"=b2=c9", "false"}, {"=b2&1", "51"}, {"=b3", "true"}, {"=C(b1:b3,5)", "1"}, {"=S(b1:b3)", "5"}, {"=d1", "5"},
        {"=d2=c9", "false"}, {"=d2=''", "true"}, {"=d2&'h'", "h"}, {"=d2+1", "#kind"}, {"=K(T,d1:d3,a1:a3)", "true"}, {"=b4", "0"},
        {"=b4=c9", "true"},
    });
  }

  private static void faultsOfOperands() {
    edge("A FAULT of an operand is what comes, the left one's first");
    String cells = "a1:=1/0 a2:='a'+1 a3:=S(n0) a4:abc";
    for (String sign : new String[] {"+", "-", "*", "/", "&", "=", "<"}) {
      all(cells, new String[][] {{"=a1" + sign + "a2", "#zero"}, {"=a2" + sign + "a1", "#kind"}, {"=a3" + sign + "a1", "#name"},
          {"=a1" + sign + "1", "#zero"}, {"=1" + sign + "a3", "#name"}, {"=a4" + sign + "a1", "#zero"}, {"=a1" + sign + "a4", "#zero"},
          {"=T" + sign + "a3", "#name"}, {"=c9" + sign + "a3", "#name"}, {"=0" + sign + "a3", "#name"}});
    }
    all(cells, new String[][] {{"=-a1", "#zero"}, {"=--a3", "#name"}, {"=a4+1+a1", "#kind"}, {"=a4*1+a1", "#kind"}, {"=a1+a4*1", "#zero"},
        {"=1+a4*1+a1", "#kind"}, {"=a4=1+a3", "#name"}, {"=(a4)<a3", "#name"}, {"=a3/0", "#name"}, {"=1/0*a3", "#zero"}, {"=a4/a3", "#name"},
        {"=1/c9+a3", "#zero"}});
  }

  private static void kinds() {
    edge("\"+\", \"-\", \"*\", \"/\" and \"-\" ahead want NUMBERS (\"#kind\")");
    for (String sign : new String[] {"+", "-", "*", "/"}) {
      for (String other : new String[] {"'a'", "''", "'1'", "T", "X", "(1=1)"}) {
        all("", new String[][] {{"=1" + sign + other, "#kind"}, {"=" + other + sign + "1", "#kind"},
            {"=" + other + sign + other, "#kind"}, {"=c1" + sign + other, "#kind"}});
      }
    }
    all("", new String[][] {{"=-'a'", "#kind"}, {"=-''", "#kind"}, {"=-T", "#kind"}, {"=-X", "#kind"}, {"=--T", "#kind"}, {"=-1", "-1"},
        {"=--1", "1"}, {"=---1", "-1"}, {"=-0", "0"}, {"=2--3", "5"}, {"=2*-3", "-6"}, {"=-2*3", "-6"}, {"=-(1&2)", "#kind"}});
    edge("All are done from left to right within their SUM, their PRODUCT");
    all("", new String[][] {{"=9-3-2", "4"}, {"=9-3+2", "8"}, {"=8/4/2", "1"}, {"=8/4*2", "4"}, {"=2+3*4", "14"}, {"=2*3+4", "10"},
        {"=1&2+3", "#kind"}, {"=1+2&3", "33"}, {"=1-2&3", "-13"}, {"=1&2*3", "16"}, {"=1&2&3", "123"}, {"=2*3&4", "64"}, {"=10-4/2", "8"},
        {"=1+1=2", "true"}, {"=1<1+1", "true"}, {"=1&2=12", "false"}, {"=1&2='12'", "true"}, {"=-2-2", "-4"}, {"=-2*-2-2", "2"}});
  }

  private static void division() {
    edge("\"/\" of a NUMBER by 0 is \"#zero\"");
    all("", new String[][] {{"=1/0", "#zero"}, {"=0/0", "#zero"}, {"=-1/0", "#zero"}, {"=1/c1", "#zero"}, {"=1/(1-1)", "#zero"},
        {"=1/-0", "#zero"}, {"='a'/0", "#kind"}, {"=''/0", "#kind"}, {"=T/0", "#kind"}, {"=c1/0", "#zero"}, {"=0/1", "0"},
        {"=1/0*0", "#zero"}, {"=0*1/0", "#zero"}, {"=1/S(c1:c2)", "#zero"}, {"=1/2/0", "#zero"}, {"=1/(0/5)", "#zero"}});
  }

  private static void joins() {
    edge("\"&\" puts both together as shown, as a text");
    all("", new String[][] {{"=1&2", "12"}, {"=1/2&'a'", "1/2a"}, {"=-1&-2", "-1-2"}, {"=T&X", "truefalse"}, {"=''&''", ""}, {"='a'&1=1", "false"},
        {"=1&2=12", "false"}, {"=T&''=T", "false"}, {"=C(c1,1)&N(1)", "0false"}});
    Cellweave x = sheet("a1:=1&2 a2:=''&''");
    due("it is a text", "" + x.ofPlace(0, 0) + x.ofPlace(8, 0), "22");
  }

  private static void equals() {
    edge("\"=\": whether both are ALIKE");
    all("a1:=1/0", new String[][] {{"=1=1", "true"}, {"=1='1'", "false"}, {"=''=''", "true"}, {"=T=X", "false"}, {"=a1=a1", "#zero"}, {"=1=T", "false"},
        {"='a'=T", "false"}, {"='a'='a'", "true"}, {"=(1=1)=T", "true"}, {"=N(a1)=T", "true"}});
    due("a TRUTH", sheet("a1:=1=1").ofPlace(0, 0), 3);
  }

  private static void less() {
    edge("\"<\": of two NUMBERS, two texts or two TRUTHS (false first); else \"#kind\"");
    all("", new String[][] {{"=1<2", "true"}, {"=2<1", "false"}, {"=1<1", "false"}, {"=-2<-1", "true"}, {"=-1<-2", "false"}, {"=-1<1", "true"},
        {"=1<-1", "false"}, {"=0<1", "true"}, {"=-1<0", "true"}, {"=1/3<1/2", "true"}, {"=1/2<1/3", "false"}, {"=-1/2<-1/3", "true"},
        {"=1/2<2/4", "false"}, {"=X<T", "true"}, {"=T<X", "false"}, {"=T<T", "false"}, {"=X<X", "false"}, {"=1<'1'", "#kind"},
        {"='1'<1", "#kind"}, {"=1<T", "#kind"}, {"=X<1", "#kind"}, {"='a'<T", "#kind"}, {"=T<'a'", "#kind"}});
    edge("sign by sign, as in ASCII; the beginning of a longer one is less");
    all("", new String[][] {{"='a'<'ab'", "true"}, {"='ab'<'a'", "false"}, {"='ab'<'ab'", "false"}, {"=''<'a'", "true"}, {"='a'<''", "false"},
        {"=''<''", "false"}, {"='ab'<'b'", "true"}, {"='b'<'ab'", "false"}, {"='ab'<'ac'", "true"}, {"='9'<'a'", "true"},
        {"='a'<'9'", "false"}, {"='9'<'S'", "true"}, {"='S'<'a'", "true"}, {"='h'<'n'", "true"}, {"='X'<'a'", "true"}, {"='10'<'9'", "true"},
        {"='#'<'$'", "true"}, {"='$'<'&'", "true"}, {"='&'<'('", "true"}, {"='('<')'", "true"}, {"=')'<'*'", "true"}, {"='*'<'+'", "true"},
        {"='+'<','", "true"}, {"=','<'-'", "true"}, {"='-'<'/'", "true"}, {"='/'<'0'", "true"}, {"='9'<':'", "true"}, {"=':'<'<'", "true"},
        {"='<'<'='", "true"}, {"='='<'C'", "true"}, {"='X'<'F'", "false"}});
  }

  /** What a LIST over a5:a20 shows, from b1 on. */
  private static String listed(String list, String cells, int many) {
    Cellweave x = sheet(cells + " b1:" + list);
    due("how many VALUES", x.ofPlace(1, 10), many);
    due("nothing behind", x.source(1 + 8 * many), -1);
    return column(x, "b1", many);
  }

  private static void order() {
    edge("O: NUMBERS by size, then texts as by \"<\", then false, true, then FAULTS as they come");
    due("all kinds", listed("=O(a5:a18)", "a5:=S(n0) a6:=T a7:ab a8:2 a9:=1/0 a10:=X a11:='' a12:-1/2 a13:a a15:=T a16:1/3 a17:S a18:=-'a'", 13),
        "-1/2,1/3,2,,S,a,ab,false,true,true,#name,#zero,#kind");
    due("FAULTS as they come", listed("=O(a5:a7)", "a5:=-'a' a6:=1/0 a7:=S(n0)", 3), "#kind,#zero,#name");
    due("the other way", listed("=O(a5:a7)", "a5:=S(n0) a6:=1/0 a7:=-'a'", 3), "#name,#zero,#kind");
    due("row by row", listed("=O(g5:h6)", "g5:=S(n0) h5:=1/0 g6:=-'a' h6:1", 4), "1,#name,#zero,#kind");
    due("like ones", listed("=O(a5:a8)", "a5:2 a6:1 a7:2 a8:1", 4), "1,1,2,2");
    due("one", listed("=O(a5)", "a5:2", 1), "2");
    due("EMPTY ones", listed("=O(c5:h9)", "c5:2 h9:1", 2), "1,2");
    due("a FAULT does not go ahead", listed("=O(a5:a6)", "a5:=1/0 a6:1", 2), "1,#zero");
  }

  private static void choices() {
    edge("I: the second, if the first is true, the third, if it is false (the other one counts for nothing)");
    all("a1:=1/0 a2:abc", new String[][] {{"=I(T,1,2)", "1"}, {"=I(X,1,2)", "2"}, {"=I(T,1,a1)", "1"}, {"=I(X,a1,2)", "2"}, {"=I(T,a1,2)", "#zero"},
        {"=I(X,1,a1)", "#zero"}, {"=I(1=1,'a','b')", "a"}, {"=I(T,1,-'a')", "1"}, {"=I(X,S(n0),T)", "true"}, {"=I(T,c1,1)", "0"}, {"=I(X,1,c1)", "0"}});
    edge("I: else \"#kind\", or the FAULT of the first");
    all("a1:=1/0 a2:abc", new String[][] {{"=I(1,1,2)", "#kind"}, {"=I(0,1,2)", "#kind"}, {"=I(c1,1,2)", "#kind"}, {"=I(a2,1,2)", "#kind"},
        {"=I('',1,2)", "#kind"}, {"=I(T&'',1,2)", "#kind"}, {"=I(a1,1,2)", "#zero"}, {"=I(a1,S(n0),S(n0))", "#zero"}, {"=I(S(n0),a1,a1)", "#name"},
        {"=I(1,a1,a1)", "#kind"}, {"=I(1+a1,1,2)", "#zero"}});
  }

  private static void faultsAsked() {
    edge("N: whether it is a FAULT");
    all("a1:=1/0", new String[][] {{"=N(a1)", "true"}, {"=N(1)", "false"}, {"=N('a')", "false"}, {"=N('')", "false"}, {"=N(T)", "false"}, {"=N(X)", "false"},
        {"=N(c1)", "false"}, {"=N((c1))", "false"}, {"=N(S(n0))", "true"}, {"=N(1=a1)", "true"}, {"=N(N(a1))", "false"}, {"=N(-'a')", "true"},
        {"=N(a1)+1", "#kind"}, {"=1+N(a1)", "#kind"}});
  }

  private static void rangeFaults() {
    edge("A FAULT of a range is \"#name\" or \"#gone\", not what its PLACES show");
    all("a1:=1/0 a2:1", new String[][] {{"=C(a1:a2,1)", "1"}, {"=K(1,a1:a2,a2:a3)", "0"}, {"=K(1,a2:a3,a1:a2)", "#zero"}, {"=C(a1,1)", "0"},
        {"=S(n0)", "#name"}, {"=L(n5)", "#name"}, {"=M(n1)", "#name"}, {"=C(n0,1)", "#name"}, {"=K(1,n0,a1)", "#name"}, {"=K(1,a1,n0)", "#name"}});
    edge("\"#gone\", if one of its PLACES is GONE");
    Cellweave x = sheet("c3:=S(b2:d9) d3:=L(b2) e3:=M(b2#) f3:=C(b2:b9,1) g3:=K(1,b2:b9,b3) h3:=b2");
    for (int c = 2; c < 8; c++) {
      x.copy(at("a3") + c, c);
    }
    due("values", x.value(2) + x.value(3) + x.value(4) + x.value(5) + x.value(6) + x.value(7), "#gone#gone#gone#gone#gone#gone");
    Cellweave y = sheet("c3:=O(b2:b9) d3:=U(b2#) e3:=F(b2,n0) f3:=F(n0,b2) g3:=F(b3,b2)");
    for (int c = 2; c < 7; c++) {
      y.copy(at("a3") + c, c);
    }
    due("LISTS", y.value(2) + y.value(3) + y.value(4) + y.value(5) + y.value(6), "#gone#gone#gone#name#gone");
    edge("of a name its corners (\"#name\", if it is not told)");
    Cellweave n = sheet("a1:1 b1:2 a2:3 b2:4 d1:=S(n0) e1:=O(n0)");
    due("not told", n.value(3) + n.value(4), "#name#name");
    n.name(0, at("b1"), at("a2"));
    due("told", n.value(3) + "," + column(n, "e1", 4), "10,1,2,3,4");
    n.name(0, -1, 0);
    due("told no more", n.value(3) + n.value(4) + n.value(12), "#name#name");
    edge("A range is a row of PLACES, row by row: all between both corners");
    for (String range : new String[] {"a1:b2", "b2:a1", "a2:b1", "b1:a2"}) {
      Cellweave r = sheet("a1:1 b1:2 a2:1 b2:3 c1:5 a3:6 d1:=S(" + range + ") e1:=U(" + range + ") f1:=K(1," + range + ",h1:h4)");
      due(range, r.value(3) + "," + column(r, "e1", 3), "7,1,2,3");
    }
    all("a1:5 b1:6 a2:7 b2:8 c1:1 d1:2 c2:3 d2:4", new String[][] {{"=K(6,a1:b2,c1:d2)", "2"}, {"=K(7,a1:b2,c1:d2)", "3"}, {"=K(7,a1:b2,c1:c3)", "0"},
        {"=K(8,a1:b2,a1:d1)", "2"}, {"=K(8,b2:a1,d2:c1)", "4"}});
  }

  private static void hashRanges() {
    edge("with \"#\" those at which the LIST is shown that stands at that PLACE (that PLACE alone, if none does, or it is BARRED)");
    String cells = "a1:1 a2:2 a3:3 b1:=O(a1:a3) ";
    all(cells, new String[][] {{"=S(b1#)", "6"}, {"=C(b1#,2)", "1"}, {"=M(b1#)", "3"}, {"=S(b2#)", "2"}, {"=S(b4#)", "0"}, {"=S(a1#)", "1"},
        {"=S(c9#)", "0"}, {"=C(c9#,0)", "0"}, {"=L(c9#)", "#none"}, {"=K(3,b1#,a1:a3)", "3"}, {"=K(3,b1#,a1:a2)", "#none"}, {"=S($b$1#)", "6"}});
    all(cells + "b3:9", new String[][] {{"=S(b1#)", "#bar"}, {"=C(b1#,9)", "0"}, {"=C(b1#,1)", "0"}, {"=K(9,b1#,b3)", "#none"}, {"=S(b3#)", "9"}});
    all(cells + "b4:9 b5:9", new String[][] {{"=S(b1#)", "6"}, {"=C(b1#,9)", "0"}});
    all("b1:=O(a1:a3) b2:5", new String[][] {{"=S(b1#)", "#none"}, {"=C(b1#,5)", "0"}, {"=N(S(b1#))", "true"}});
    all("a1:4 b1:=O(a1) b2:5", new String[][] {{"=S(b1#)", "4"}, {"=C(b1#,5)", "0"}});
    all("b20:3", new String[][] {{"=S(b20#)", "3"}, {"=S(a20#)", "0"}});
    all("b2:5 a1:=b1 b1:=O(a1:a2)", new String[][] {{"=S(b1#)", "#circle"}});
  }

  private static void sums() {
    edge("S: the sum of its NUMBERS; for these three the first FAULT in it goes ahead");
    all("a1:1 a2:abc a3:=T a5:1/2 b1:=1/0 b2:=S(n0)", new String[][] {{"=S(a1:a9)", "3/2"}, {"=S(a2)", "0"}, {"=S(a2:a4)", "0"}, {"=S(a4)", "0"},
        {"=S(a1)", "1"}, {"=S(a1:b1)", "#zero"}, {"=S(a1:b2)", "#zero"}, {"=S(b2:a1)", "#zero"}, {"=S(b2)", "#name"}, {"=S(a2:b2)", "#name"}});
    all("a1:5 b1:=S(n0) a2:=1/0", new String[][] {{"=S(a1:b2)", "#name"}, {"=L(a1:b2)", "#name"}, {"=M(a1:b2)", "#name"}, {"=S(a1:a2)", "#zero"},
        {"=L(a1:a2)", "#zero"}, {"=M(a1:a2)", "#zero"}, {"=L(a2:a3)", "#zero"}, {"=M(a2)", "#zero"}});
  }

  private static void exactSums() {
    edge("S: added exactly; the sum alone may be \"#long\"");
    all(POWERS + "c1:=b1 c2:=b1 c3:=b1 c4:=b2 c5:=b2 d1:=b1 d2:1 e1:=b2 e2:-1", new String[][] {
        {"=S(c1:c5)", LONGEST}, {"=S(c1:c4)", "#long"}, {"=S(c2:c5)", "0"}, {"=S(c1:c2)", "#long"}, {"=S(d1:d2)", "#long"}, {"=S(e1:e2)", "#long"},
        {"=S(d1:e2)", "0"}, {"=S(d1:e1)", "0"}, {"=S(d2:e2)", "0"}, {"=b1+b1+b2", "#long"},
    });
    all(POWERS + "c1:=1/b1 c2:=1/a1 c3:=1/b4 d2:=-1/a1 e1:1/997 e2:=1/b1 e3:-1/997", new String[][] {
        {"=S(c1:c2)", "#long"}, {"=S(c2:d2)", "0"}, {"=S(e1:e2)", "#long"}, {"=S(e1:e3)", "1/" + LONGEST}, {"=S(c1:c1)", "1/" + LONGEST},
    });
  }

  private static void leastAndGreatest() {
    edge("L, M: the least, the greatest of these (\"#none\" without any)");
    all("a1:3 a2:-1/2 a3:abc a4:=X b1:-1/3 b2:-7", new String[][] {{"=L(a1:a9)", "-1/2"}, {"=M(a1:a9)", "3"}, {"=L(a3)", "#none"}, {"=M(a3:a4)", "#none"},
        {"=L(c1)", "#none"}, {"=M(c1:c5)", "#none"}, {"=L(a1:b2)", "-7"}, {"=M(a1:b2)", "3"}, {"=M(b1:b2)", "-1/3"}, {"=L(b1:b1)", "-1/3"},
        {"=M(a2)", "-1/2"}, {"=L(a2:b1)", "-7"}, {"=L(a1:a3)", "-1/2"}});
    all("a1:0 a2:0 a3:-0", new String[][] {{"=L(a1:a3)", "0"}, {"=M(a1:a3)", "0"}});
  }

  private static void counts() {
    edge("C: how many are ALIKE with the EXPRESSION");
    all("a1:1 a2:=1&'' a3:=T a4:abc a5:1/2 a6:=1/0 a7:2/2", new String[][] {{"=C(a1:a9,1)", "2"}, {"=C(a1:a9,'1')", "1"}, {"=C(a1:a9,T)", "1"}, {"=C(a1:a9,X)", "0"},
        {"=C(a1:a9,'abc')", "1"}, {"=C(a1:a9,'ab')", "0"}, {"=C(a1:a9,1/2)", "1"}, {"=C(a1:a9,0)", "0"}, {"=C(a1:a9,c1)", "0"}, {"=C(a1,1)", "1"},
        {"=C(a8,c1)", "0"}});
    edge("C: a FAULT of the range goes first, then that of the EXPRESSION");
    all("a6:=1/0", new String[][] {{"=C(n0,1/0)", "#name"}, {"=C(n0,1)", "#name"}, {"=C(a1:a9,1/0)", "#zero"}, {"=C(a6,1/0)", "#zero"}, {"=C(a6,-'a')", "#kind"},
        {"=C(a6,1)", "0"}});
  }

  private static void lookUps() {
    edge("K: the VALUE in the second range at the same number as the first in the first range that is ALIKE with the EXPRESSION");
    String cells = "a1:3 a2:abc a3:3 a4:=1/0 b1:=T b2:7 b4:5 b3:8 ";
    all(cells, new String[][] {{"=K(3,a1:a4,b1:b4)", "true"}, {"=K(3,a2:a4,b1:b4)", "7"}, {"=K('abc',a1:a4,b1:b4)", "7"}, {"=K(3,a1:a4,a4:a7)", "#zero"},
        {"=K(8,b1:b4,a1:a4)", "3"}, {"=K(3,a1,b1)", "true"}, {"=K(3,a1:b4,b4)", "5"}, {"=K(T,b1:b4,c1:c4)", "0"}});
    edge("K: an EMPTY one that comes is 0");
    all(cells, new String[][] {{"=K('abc',a1:a4,c1:c4)", "0"}, {"=K(3,a1,c1)=0", "true"}, {"=K(3,a1,c1)=c9", "false"}, {"=K(3,a1,c1)&1", "01"}});
    edge("K: \"#none\" without such a one, or if the second range is shorter than that");
    all(cells, new String[][] {{"=K(4,a1:a4,b1:b4)", "#none"}, {"=K('3',a1:a4,b1:b4)", "#none"}, {"=K(0,c1:c9,b1:b4)", "#none"}, {"=K(c9,c1:c9,b1:b4)", "#none"},
        {"=K('abc',a1:a4,b1)", "#none"}, {"=K('abc',a1:a4,b1:b2)", "7"}, {"=K('abc',a1:a4,b1:b1)", "#none"}, {"=K(3,a2:a4,b1)", "#none"}, {"=K(3,a3:a4,b1)", "true"}});
    edge("Ahead of all this the EXPRESSION's FAULT, then that of the first range, then that of the second one, also if nothing is found");
    all(cells, new String[][] {{"=K(1/0,n0,n1)", "#zero"}, {"=K(1/0,a1,a2)", "#zero"}, {"=K(4,n0,a1)", "#name"}, {"=K(4,a1,n0)", "#name"}, {"=K(3,a1,n0)", "#name"},
        {"=K(3,a3:a9,n0)", "#name"}});
    Cellweave x = sheet("c3:=K(1,b2,n0) d3:=K(1,n0,b2) e3:=K(1/0,b2,b2) f3:=K(4,a9,b2)");
    for (int c = 2; c < 6; c++) {
      x.copy(at("a3") + c, c);
    }
    due("with what is GONE", x.value(2) + x.value(3) + x.value(4) + x.value(5), "#gone#name#zero#gone");
  }

  private static void ordered() {
    edge("O: those of the range that are not EMPTY");
    due("between EMPTY ones", listed("=O(a5:a9)", "a6:2 a8:1", 2), "1,2");
    due("a text without signs", listed("=O(a5:a9)", "a6:='' a8:1", 2), "1,");
  }

  private static void unique() {
    edge("U: those that are not EMPTY, each but once (ALIKE), as they first come");
    due("like ones", listed("=U(a5:a13)", "a5:2 a6:1 a7:4/2 a8:=2&'' a9:1 a11:=T a12:=T&'' a13:=T", 5), "2,1,2,true,true");
    due("all are like", listed("=U(a5:a7)", "a5:2 a6:2 a7:2", 1), "2");
    due("FAULTS, too", listed("=U(a5:a8)", "a5:=1/0 a6:=2/0 a7:=-'a' a8:=1/0", 2), "#zero,#kind");
    due("a text without signs", listed("=U(a5:a8)", "a5:='' a7:='' a8:0", 2), ",0");
    due("row by row", listed("=U(g5:h6)", "g5:1 h5:2 g6:2 h6:3", 3), "1,2,3");
  }

  private static void filtered() {
    edge("F: those of the first range whose partner by number in the second one is true (a missing one is not); as a VALUE EMPTY is 0 there");
    due("true ones", listed("=F(a5:a7,c5:c7)", "a5:1 a6:2 a7:3 c5:=T c6:=X c7:=T", 2), "1,3");
    due("what is not true", listed("=F(a5:a10,c5:c10)", "a5:1 a6:2 a7:3 a8:4 a9:5 a10:6 c5:1 c6:=T&'' c7:=X c9:=1/0 c10:=T", 1), "6");
    due("a missing partner", listed("=F(a5:a7,c5)", "a5:1 a6:2 a7:3 c5:=T c6:=T d5:=T c7:=T", 1), "1");
    due("two of three partners", listed("=F(a5:a7,c5:c6)", "a5:1 a6:2 a7:3 c5:=T c6:=T d5:=T c7:=T", 2), "1,2");
    due("a name's partners", listed("=F(a5:a7,c5:d5)", "a5:1 a6:2 a7:3 c5:=T c6:=T d5:=T d6:=T", 2), "1,2");
    due("more partners", listed("=F(a5,c5:c7)", "a5:1 c5:=T c6:=T", 1), "1");
    due("EMPTY is 0", listed("=F(a5:a7,c5:c7)", "a5:1 c5:=T c6:=T c7:=T", 3), "1,0,0");
    due("FAULTS come", listed("=F(a5:a6,c5:c6)", "a5:=1/0 a6:2 c5:=T c6:=T", 2), "#zero,2");
    due("by number, not by place", listed("=F(g5:h6,c5:c8)", "g5:1 h5:2 g6:3 h6:4 c6:=T c7:=T", 2), "2,3");
    Cellweave x = sheet("c5:=T b1:=F(a5,c5)");
    due("kind of an EMPTY one", x.ofPlace(1, 0), 1);
  }

  private static void noValues() {
    edge("LISTS: Without any it is \"#none\"");
    for (String list : new String[] {"=O(a5:a9)", "=U(a5:a9)", "=O(a5)", "=F(a5:a9,c5:c9)", "=F(d5,e5)"}) {
      Cellweave x = sheet("d5:1 b1:" + list);
      due(list, x.value(1) + x.ofPlace(1, 10) + x.ofPlace(1, 0) + x.source(9), "#none04-1");
    }
    edge("LISTS: a FAULT of a range (the first one's ahead of the second one's) is what comes, as a VALUE");
    for (String list : new String[] {"=O(n0)", "=U(n0)", "=F(n0,a1)", "=F(a1,n0)", "=F(n0,n1)", "=F(c1:c9,n0)"}) {
      Cellweave x = sheet("b1:" + list);
      due(list, x.value(1) + x.ofPlace(1, 10) + x.ofPlace(1, 0), "#name04");
    }
    Cellweave y = sheet("c3:=F(b2,n0) d3:=F(n0,b2)");
    y.copy(at("c3"), 2);
    y.copy(at("d3"), 3);
    due("the first one's", y.value(2) + y.value(3), "#gone#name");
    edge("a LIST that came to a VALUE is not BARRED");
    due("with a CELL below", column(sheet("b1:=O(n0) b2:5 c1:=O(a5) c2:5"), "b1", 2), "#name,5");
    due("at the end", sheet("b20:=O(a5)").value(at("b20")), "#none");
  }

  private static void spills() {
    edge("its first VALUE is shown where it stands, the others at the PLACES below, one after the other");
    Cellweave x = sheet("a1:1 a2:2 a3:3 b5:=O(a1:a3)");
    due("all", column(x, "b4", 6), ",1,2,3,,");
    due("what stands there", "" + x.ofPlace(at("b5"), 1) + x.ofPlace(at("b6"), 1), "30");
    due("TEXT", x.text(at("b5")) + x.text(at("b6")), "=O(a1:a3)");
    due("no CELL more", x.house(0), 4);
    edge("If one of these is a CELL, it is BARRED: it shows \"#bar\", and nothing below");
    set(x, "b7", "9");
    due("the last one is a CELL", column(x, "b5", 4), "#bar,,9,");
    due("how many VALUES", x.ofPlace(at("b5"), 10), 0);
    due("source()", x.source(at("b6")), -1);
    x.clear(at("b7"));
    set(x, "b8", "9");
    due("the one behind is a CELL", column(x, "b5", 4), "1,2,3,9");
    set(x, "b6", "=''");
    due("the first one is a CELL", column(x, "b5", 4), "#bar,,,9");
    set(x, "b6", "=O(a1)");
    due("a LIST is a CELL, too", column(x, "b5", 4), "#bar,1,,9");
    x.clear(at("b6"));
    x.lock(at("b6"), true);
    x.check(at("b7"), 0, 1);
    due("a LOCK and a CHECK do not bar", column(x, "b5", 4), "1,2,3,9");
    due("the CHECK", x.bad(), "" + at("b7"));
    set(x, "a2", "1");
    set(x, "b5", "=U(a1:a3)");
    due("fewer VALUES", column(x, "b5", 4), "1,3,,9");
    set(x, "b7", "4");
    due("a CELL behind fewer", column(x, "b5", 4), "1,3,4,9");
  }

  private static void spillsAtTheEnd() {
    edge("or beyond the sheet, it is BARRED");
    Cellweave x = sheet("a1:1 a2:2 a3:3 h18:=O(a1:a3)");
    due("just to the end", column(x, "h18", 3) + x.ofPlace(at("h18"), 10), "1,2,33");
    Cellweave y = sheet("a1:1 a2:2 a3:3 h19:=O(a1:a3) g19:=O(a1:a2) f20:=O(a1) e20:=O(a1:a2) a20:=O(a1:a2)");
    due("one beyond", column(y, "h19", 2) + y.ofPlace(at("h19"), 10), "#bar,0");
    due("just to the end", column(y, "g19", 2), "1,2");
    due("one VALUE", y.value(at("f20")) + y.ofPlace(at("f20"), 10), "11");
    due("two in the last row", y.value(at("e20")) + y.value(at("a20")), "#bar#bar");
    Cellweave z = new Cellweave();
    set(z, "a1", "7");
    z.fill(0, 0, at("b10"));
    set(z, "d1", "=O(a1:b10)");
    due("20 VALUES in a whole column", z.ofPlace(3, 10), 20);
    due("the last one", z.value(at("d20")), "7");
    set(z, "c1", "7");
    set(z, "d1", "=O(a1:c10)");
    due("21 VALUES", z.value(3) + z.ofPlace(3, 10) + z.value(at("d20")), "#bar0");
  }
}
