/** Edges of section 1 and of promises 1 to 7: what can be typed, and what it is READ as. */
public final class InputEdges extends Bench {
  private static final String FORTY = "0123456789abcdefgh$:#+-*&=</(),'nSLMCIKO";

  public static void main(String[] args) {
    newObject();
    signs();
    fullInput();
    placesTyped();
    placesThatFit();
    placesRefused();
    rubs();
    constants();
    texts();
    emptyInput();
    expressions();
    numbersInFormulas();
    quotes();
    rows();
    dollars();
    ranges();
    listsAlone();
    functions();
    brackets();
    putsRefused();
    textOfFormulas();
    end();
  }

  private static void newObject() {
    edge("Creates an empty sheet");
    Cellweave x = new Cellweave();
    due("all()", x.all(), "");
    due("input()", x.input(), "");
    due("fault()", x.fault(), 0);
    for (int p = 0; p <= LAST; p++) {
      due("what is at " + p, x.value(p) + x.text(p) + x.needs(p, true) + x.needs(p, false) + x.ring(p) + x.reason(p), "");
      due("source of " + p, x.source(p), -1);
      for (int what = 0; what <= 10; what++) {
        due("ofPlace(" + p + ", " + what + ")", x.ofPlace(p, what), 0);
      }
    }
    for (int what = 0; what <= 11; what++) {
      due("house(" + what + ")", x.house(what), what == 4 ? -1 : 0);
    }
    for (int i = 0; i < 6; i++) {
      due("named(" + i + ")", x.named(i), "");
    }
    due("lists", x.reckoned() + x.bad() + x.differs(0) + x.differs(1) + x.differs(2), "");
    due("isSound()", x.isSound(), true);
    due("close()", x.close(), -1);
    notNow(x, "undo()", () -> x.undo());
    notNow(x, "redo()", () -> x.redo());
    due("open()", x.open(), 0);
    due("knock()", x.knock(), 1);
    Cellweave y = new Cellweave();
    due("another one's knock()", y.knock(), 1);
  }

  private static void signs() {
    edge("SIGNS, from 0 on ... (45 in all)");
    for (int s = 0; s <= 44; s++) {
      Cellweave x = new Cellweave();
      due("sign(" + s + ")", x.sign(s), 1);
      due("input()", x.input(), "" + Model.SIGNS.charAt(s));
    }
    edge("sign: if sign is not 0 to 44");
    Cellweave x = new Cellweave();
    for (int s : new int[] {-1, 45, 46, Integer.MIN_VALUE, Integer.MAX_VALUE}) {
      bad(x, "sign(" + s + ")", () -> x.sign(s));
    }
  }

  private static void fullInput() {
    edge("The INPUT is a row of at most 40 of them");
    Cellweave x = new Cellweave();
    for (int i = 0; i < 40; i++) {
      due("sign()", x.sign(i), i + 1);
    }
    due("input()", x.input(), FORTY);
    notNow(x, "sign(0) behind 40", () -> x.sign(0));
    notNow(x, "sign(44) behind 40", () -> x.sign(44));
    notNow(x, "place(0, 0) behind 40", () -> x.place(0, 0));
    edge("if several apply, the one that is named first is thrown");
    bad(x, "sign(45) behind 40", () -> x.sign(45));
    bad(x, "sign(-1) behind 40", () -> x.sign(-1));
    bad(x, "place(160, 0) behind 40", () -> x.place(160, 0));
    bad(x, "place(0, 4) behind 40", () -> x.place(0, 4));
    edge("sign: if there are 40");
    due("rub(1)", x.rub(1), 39);
    due("sign()", x.sign(44), 40);
    due("input()", x.input(), FORTY.substring(0, 39) + "X");
    notNow(x, "sign(0)", () -> x.sign(0));
  }

  private static void placesTyped() {
    edge("place: Types a PLACE behind the INPUT (as a letter and a row)");
    String[] all = {"a1", "a$1", "$a1", "$a$1", "h1", "h$1", "$h1", "$h$1"};
    for (int held = 0; held <= 3; held++) {
      due("a1 held " + held, typed(0, held), all[held]);
      due("h1 held " + held, typed(7, held), all[4 + held]);
    }
    due("a9", typed(64, 0), "a9");
    due("h9", typed(71, 3), "$h$9");
    due("a10", typed(72, 0), "a10");
    due("a10 held", typed(72, 1), "a$10");
    due("h19", typed(151, 2), "$h19");
    due("a20", typed(152, 3), "$a$20");
    due("h20", typed(159, 0), "h20");
    for (int p = 0; p <= LAST; p++) {
      due("place " + p, typed(p, 0), "" + (char) ('a' + p % 8) + (p / 8 + 1));
    }
  }

  private static String typed(int place, int held) {
    Cellweave x = new Cellweave();
    int many = x.place(place, held);
    due("how many SIGNS", many, x.input().length());
    return x.input();
  }

  private static Cellweave withSigns(int many) {
    Cellweave x = new Cellweave();
    for (int i = 0; i < many; i++) {
      x.sign(1);
    }
    return x;
  }

  private static void placesThatFit() {
    edge("place: if there would be more than 40");
    int[][] all = {{0, 0, 2}, {0, 1, 3}, {0, 2, 3}, {0, 3, 4}, {71, 0, 2}, {71, 3, 4}, {72, 0, 3}, {72, 1, 4}, {72, 2, 4},
        {159, 3, 5}};
    for (int[] one : all) {
      Cellweave fits = withSigns(40 - one[2]);
      due("place(" + one[0] + ", " + one[1] + ") that just fits", fits.place(one[0], one[1]), 40);
      Cellweave full = withSigns(41 - one[2]);
      notNow(full, "place(" + one[0] + ", " + one[1] + ") that does not fit", () -> full.place(one[0], one[1]));
    }
  }

  private static void placesRefused() {
    edge("place: if place is not 0 to 159, or held not 0 to 3");
    Cellweave x = withSigns(3);
    for (int p : new int[] {-1, 160, Integer.MIN_VALUE, Integer.MAX_VALUE}) {
      bad(x, "place(" + p + ", 0)", () -> x.place(p, 0));
    }
    for (int h : new int[] {-1, 4, Integer.MIN_VALUE, Integer.MAX_VALUE}) {
      bad(x, "place(0, " + h + ")", () -> x.place(0, h));
    }
    bad(x, "place(160, 4)", () -> x.place(160, 4));
    due("place(159, 3)", x.place(159, 3), 8);
  }

  private static void rubs() {
    edge("rub: Takes the last SIGNS off the INPUT (all, if there are fewer)");
    Cellweave x = new Cellweave();
    due("rub(0) of nothing", x.rub(0), 0);
    due("rub(1) of nothing", x.rub(1), 0);
    type(x, "abc12");
    due("rub(0)", x.rub(0), 5);
    due("rub(1)", x.rub(1), 4);
    due("input()", x.input(), "abc1");
    due("rub(3)", x.rub(3), 1);
    due("input()", x.input(), "a");
    due("rub(1), all", x.rub(1), 0);
    type(x, "abc");
    due("rub(3), all", x.rub(3), 0);
    type(x, "abc");
    due("rub(4), more than all", x.rub(4), 0);
    due("input()", x.input(), "");
    type(x, "abc");
    due("rub(MAX)", x.rub(Integer.MAX_VALUE), 0);
    due("sign()", x.sign(10), 1);
    due("input()", x.input(), "a");
    edge("rub: if many is below 0");
    bad(x, "rub(-1)", () -> x.rub(-1));
    bad(x, "rub(MIN)", () -> x.rub(Integer.MIN_VALUE));
    Cellweave y = new Cellweave();
    bad(y, "rub(-1) of nothing", () -> y.rub(-1));
    due("rub(41) of 40", withSigns(40).rub(41), 0);
    due("rub(39) of 40", withSigns(40).rub(39), 1);
  }

  /** Puts a constant; answers its value, kind and text. */
  private static String constant(String text) {
    Cellweave x = sheet("b2:" + text);
    due("what stands there", x.ofPlace(9, 1), 1);
    due("TEXT of a constant: its VALUE as shown", x.text(9), x.value(9));
    return x.value(9) + " " + x.ofPlace(9, 0);
  }

  private static void constants() {
    edge("if it is \"-\" or nothing, 1 to 6 digits ... it is the NUMBER; otherwise it is a text constant");
    String[][] all = {
        {"0", "0 1"}, {"9", "9 1"}, {"-9", "-9 1"}, {"123456", "123456 1"}, {"-123456", "-123456 1"},
        {"999999", "999999 1"}, {"-999999", "-999999 1"}, {"1234567", "1234567 2"}, {"-1234567", "-1234567 2"},
        {"000000", "0 1"}, {"0000000", "0000000 2"}, {"000001", "1 1"}, {"-0", "0 1"}, {"-000000", "0 1"},
        {"-", "- 2"}, {"--1", "--1 2"}, {"+1", "+1 2"}, {"1-", "1- 2"}, {"1a", "1a 2"}, {"a1", "a1 2"}, {"1+1", "1+1 2"},
    };
    for (String[] one : all) {
      due(one[0], constant(one[0]), one[1]);
    }
    edge("or \"/\" and 1 to 3 digits, which are not all 0");
    String[][] fractions = {
        {"1/2", "1/2 1"}, {"1/999", "1/999 1"}, {"1/1000", "1/1000 2"}, {"1/0", "1/0 2"}, {"1/00", "1/00 2"},
        {"1/000", "1/000 2"}, {"1/0000", "1/0000 2"}, {"1/001", "1 1"}, {"1/100", "1/100 1"}, {"1/010", "1/10 1"},
        {"0/0", "0/0 2"}, {"0/1", "0 1"}, {"0/7", "0 1"}, {"-0/7", "0 1"}, {"1/", "1/ 2"}, {"/1", "/1 2"}, {"-/1", "-/1 2"},
        {"1/-2", "1/-2 2"}, {"1//2", "1//2 2"}, {"1/2/3", "1/2/3 2"}, {"1/2a", "1/2a 2"}, {"1234567/2", "1234567/2 2"},
        {"999999/999", "1001 1"}, {"-999999/998", "-999999/998 1"}, {"123456/100", "30864/25 1"},
    };
    for (String[] one : fractions) {
      due(one[0], constant(one[0]), one[1]);
    }
    edge("NUMBERS are fractions in lowest terms, with a bottom above 0");
    String[][] lowest = {{"6/4", "3/2 1"}, {"-6/4", "-3/2 1"}, {"4/6", "2/3 1"}, {"6/3", "2 1"}, {"-6/3", "-2 1"},
        {"7/7", "1 1"}, {"500/1", "500 1"}, {"998/996", "499/498 1"}};
    for (String[] one : lowest) {
      due(one[0], constant(one[0]), one[1]);
    }
    due("=1/-2", shows("", "=1/-2"), "-1/2");
    due("=-1/-2", shows("", "=-1/-2"), "1/2");
    due("=0/-2", shows("", "=0/-2"), "0");
  }

  private static void texts() {
    edge("otherwise it is a text constant (of at most 16 signs), as it stands");
    due("16 signs", constant("abcdefghabcdefgh"), "abcdefghabcdefgh 2");
    due("16 digits", constant("1234567890123456"), "1234567890123456 2");
    due("one sign", constant("a"), "a 2");
    due("a sign of a text", constant("'"), "' 2");
    due("a truth's sign", constant("T"), "T 2");
    due("all kinds of signs", constant("(),'nSLMCIKOFUNT"), "(),'nSLMCIKOFUNT 2");
    due("a place", constant("$a$1"), "$a$1 2");
    due("\"=\" not first", constant("1=1"), "1=1 2");
    due("17 signs", faultOf("abcdefghabcdefgha"), 16);
    due("17 digits", faultOf("12345678901234567"), 16);
    due("40 signs", faultOf(FORTY), 16);
    due("16 signs", faultOf("abcdefghabcdefgh"), -1);
  }

  private static void emptyInput() {
    edge("FAULT OF THE INPUT: 0 without SIGNS");
    Cellweave x = new Cellweave();
    due("fault()", x.fault(), 0);
    idle(x, "put()", 0, () -> x.put(0));
    set(x, "a1", "5");
    due("fault() behind a put()", x.fault(), 0);
    type(x, "12");
    x.rub(2);
    due("fault() of what is rubbed off", x.fault(), 0);
    idle(x, "put() of what is rubbed off", 0, () -> x.put(0));
  }

  private static void faults(Object[][] all) {
    for (Object[] one : all) {
      due("fault of " + one[0], faultOf((String) one[0]), one[1]);
    }
  }

  private static void expressions() {
    edge("FAULT OF THE INPUT: all of them, if only something is missing at the end; NONE if it can be READ");
    faults(new Object[][] {
        {"=", 1}, {"=-", 2}, {"=--", 3}, {"=1+", 3}, {"=1-", 3}, {"=1&", 3}, {"=1*", 3}, {"=1/", 3}, {"=1=", 3}, {"=1<", 3},
        {"=1+-", 4}, {"=(", 2}, {"=(1", 3}, {"=(1+", 4}, {"=a", 2}, {"=$", 2}, {"=$a", 3}, {"=a$", 3}, {"=$a$", 4},
        {"='", 2}, {"='a", 3}, {"='abcdefgha", 11}, {"=S", 2}, {"=S(", 3}, {"=S(a", 4}, {"=S(a1", 5}, {"=S(a1:", 6},
        {"=S(a1:$", 7}, {"=S(a1:a", 7}, {"=S(a1:a1", 8}, {"=S(a1#", 6}, {"=S(n", 4}, {"=S(n0", 5}, {"=C(a1", 5},
        {"=C(a1,", 6}, {"=C(a1,1", 7}, {"=I(1", 4}, {"=I(1,", 5}, {"=I(1,2", 6}, {"=I(1,2,", 7}, {"=I(1,2,3", 8},
        {"=K(1", 4}, {"=K(1,", 5}, {"=K(1,a1", 7}, {"=K(1,a1,", 8}, {"=K(1,a1,a2", 10}, {"=N", 2}, {"=N(", 3},
        {"=N(1", 4}, {"=O", 2}, {"=O(", 3}, {"=O(a1", 5}, {"=U", 2}, {"=U(a1", 5}, {"=F", 2}, {"=F(", 3}, {"=F(a1", 5},
        {"=F(a1,", 6}, {"=F(a1,a2", 8},
    });
    edge("EXPRESSION: a SUM, or two with \"=\" or \"<\" between");
    faults(new Object[][] {
        {"=1=2", -1}, {"=1<2", -1}, {"=1+2=3*4", -1}, {"=1=2=3", 4}, {"=1=2<3", 4}, {"=1<2=3", 4}, {"=1<2<3", 4},
        {"=(1=2)=3", -1}, {"=1=(2=3)", -1}, {"=(1=2)<(3=4)", -1}, {"=(1=2=3)", 5}, {"==1", 1}, {"=<1", 1}, {"=1==2", 3},
        {"=1=<2", 3}, {"=I(1=2=3", 6}, {"=N(1<2<3", 6}, {"=-1=-1", -1}, {"=1=-", 4},
    });
    edge("FAULT OF THE INPUT: how many SIGNS stand ahead of the first one that cannot go on so");
    faults(new Object[][] {
        {"=)", 1}, {"=,", 1}, {"=:", 1}, {"=#", 1}, {"=+1", 1}, {"=*1", 1}, {"=/1", 1}, {"=&1", 1}, {"=1+*2", 3},
        {"=1++1", 3}, {"=1+&1", 3}, {"=1*/2", 3}, {"=1--1", -1}, {"=1*-1", -1}, {"=1&-1", -1}, {"=1)", 2}, {"=1,2", 2},
        {"=()", 2}, {"=(1)(", 4}, {"=(1)1", 4}, {"=1a1", 2}, {"=1T", 2}, {"=TX", 2}, {"=T1", 2}, {"=a1b1", 3},
        {"=a1'", 3}, {"=''''", 3}, {"=1'a'", 2}, {"=n0", 1}, {"=1+n0", 3}, {"=a1:a2", 3}, {"=a1#", 3}, {"=(a1:a2)", 4},
        {"=(1))", 4}, {"=1$", 2}, {"==", 1}, {"=1+)(", 3}, {"=a1+b)", 5}, {"=h20+", 5}, {"=S(a1)S(a1)", 6},
    });
  }

  private static void numbersInFormulas() {
    edge("a number of 1 to 4 digits (as many digits are taken as can be)");
    faults(new Object[][] {{"=0", -1}, {"=1234", -1}, {"=9999", -1}, {"=0000", -1}, {"=12345", 5}, {"=00001", 5},
        {"=1+12345", 7}, {"=-12345", 6}, {"=1234+1234", -1}, {"=1234a", 5}, {"=I(12345", 7}});
    due("=9999", shows("", "=9999"), "9999");
    due("=0009", shows("", "=0009"), "9");
    due("=0000", shows("", "=0000"), "0");
    due("=9999+1", shows("", "=9999+1"), "10000");
  }

  private static void quotes() {
    edge("\"'\", at most 9 signs other than \"'\", and \"'\"");
    faults(new Object[][] {{"=''", -1}, {"='a'", -1}, {"='abcdefgha'", -1}, {"='abcdefghab'", 11}, {"='abcdefghab", 11},
        {"='abcdefgh", 10}, {"='123456789'", -1}, {"='1234567890'", 11}, {"='((((((((('", -1}, {"='='", -1}, {"='(", 3},
        {"=''a", 3}, {"='a''b'", 4}, {"='a'&'b'", -1}});
    due("no signs", shows("", "=''"), "");
    due("9 signs", shows("", "='abcdefghS'"), "abcdefghS");
    due("any signs", shows("", "='=$:#(),nX'"), "=$:#(),nX");
    due("no PLACE in quotes", sheet("a1:='a1'").needs(0, false), "");
  }

  private static void rows() {
    edge("1 to 20 without 0 ahead (so \"a25\" has its fault at the 5)");
    faults(new Object[][] {{"=a25", 3}, {"=a0", 2}, {"=a00", 2}, {"=a01", 2}, {"=a1", -1}, {"=a9", -1}, {"=a10", -1},
        {"=a19", -1}, {"=a20", -1}, {"=a21", 3}, {"=a29", 3}, {"=a30", 3}, {"=a99", 3}, {"=a100", 4}, {"=a200", 4},
        {"=a201", 4}, {"=h20", -1}, {"=h21", 3}, {"=$h$25", 5}, {"=S(a25", 5}, {"=S(a1:a25", 8}, {"=S(a0", 4},
        {"=S(a1:a0", 7}, {"=a$0", 3}, {"=n1", 1}, {"=S1", 2}});
    for (int row = 1; row <= 20; row++) {
      due("a" + row, faultOf("=a" + row), -1);
      due("what stands in row " + row, shows("b" + row + ":7", "=b" + row), "7");
    }
  }

  private static void dollars() {
    edge("a PLACE: \"$\" or nothing, a letter, \"$\" or nothing, and 1 to 20");
    faults(new Object[][] {{"=$a$1", -1}, {"=$a1", -1}, {"=a$1", -1}, {"=$$a1", 2}, {"=a$$1", 3}, {"=$1", 2}, {"=$n", 2},
        {"=a1$", 3}, {"=a$a", 3}, {"=aa1", 2}, {"=$h$20", -1}, {"=S($a$1:$b$2)", -1}, {"=S($a$1#)", -1}, {"=S($n0)", 4}});
  }

  private static void ranges() {
    edge("Range: a PLACE, \":\" and a PLACE; a PLACE and \"#\"; \"n\" and a digit 0 to 5; or a PLACE alone");
    faults(new Object[][] {{"=S(a1:b2)", -1}, {"=S(b2:a1)", -1}, {"=S(a1:a1)", -1}, {"=S(a1#)", -1}, {"=S(a1)", -1},
        {"=S(n0)", -1}, {"=S(n5)", -1}, {"=S(n6)", 4}, {"=S(n9)", 4}, {"=S(na", 4}, {"=S(n00", 5}, {"=S(n0:", 5}, {"=S(n0#", 5},
        {"=S(a1:n0", 6}, {"=S(a1##", 6}, {"=S(a1#:", 6}, {"=S(a1:b2#", 8}, {"=S(a1:b2:", 8}, {"=S(a1::", 6}, {"=S(1", 3},
        {"=S()", 3}, {"=S(-a1", 3}, {"=S((a1", 3}, {"=S(a1+", 5}, {"=S(a1,", 5}, {"=S('a'", 3}, {"=S(T", 3}, {"=S(S(", 3},
        {"=C(1", 3}, {"=C(n5,n0", 6}, {"=K(n0", 3}, {"=K(1,1", 5}, {"=K(1,n0,n6", 9}, {"=N(n0", 3}, {"=I(n0", 3},
        {"=N(a1:b2", 5}, {"=N(a1#", 5}, {"=K(a1:b2", 5}, {"=I(a1:", 5}, {"=C(a1,a1:", 8}});
  }

  private static void listsAlone() {
    edge("or one of the LISTS O(range), U(range), F(range,range), alone");
    faults(new Object[][] {{"=O(a1:b2)", -1}, {"=U(a1#)", -1}, {"=F(n0,a1)", -1}, {"=O(a1)+1", 6}, {"=O(a1))", 6},
        {"=O(a1)=O(a1)", 6}, {"=U(a1)&1", 6}, {"=F(a1,a1)*2", 9}, {"=1+O(a1)", 3}, {"=-O(a1)", 2}, {"=(O(a1))", 2},
        {"=N(O(a1))", 3}, {"=S(O(a1))", 3}, {"=I(T,U(a1),1)", 5}, {"=O(U(a1))", 3}, {"=O(1)", 3}, {"=O()", 3}, {"=O(a1,a2)", 5},
        {"=F(a1)", 5}, {"=F(a1,)", 6}, {"=F(a1,a2,a3)", 8}, {"=F(a1,1", 6}, {"=Oa1", 2}, {"=O1", 2}});
    due("a LIST", sheet("b1:=O(a1)").ofPlace(1, 1), 3);
    due("a formula", sheet("b1:=S(a1)").ofPlace(1, 1), 2);
  }

  private static void functions() {
    edge("or S(range), L(range), M(range), C(range,EXPRESSION), I(EXPRESSION,EXPRESSION,EXPRESSION), K(EXPRESSION,range,range), "
        + "N(EXPRESSION)");
    faults(new Object[][] {{"=L(a1)", -1}, {"=M(a1)", -1}, {"=C(a1,1)", -1}, {"=C(a1,1=2)", -1}, {"=C(a1)", 5},
        {"=C(a1,1,2", 7}, {"=I(1,2,3)", -1}, {"=I(1<2,2=2,3&3)", -1}, {"=I(1,2)", 6}, {"=I(1)", 4}, {"=I()", 3},
        {"=I(1,2,3,4", 8}, {"=I(,", 3}, {"=K(1,a1,a2)", -1}, {"=K(1=1,a1,a2)", -1}, {"=K(1,a1)", 7}, {"=K(1,a1,a2,", 10},
        {"=N(1=2)", -1}, {"=N()", 3}, {"=N(1,2", 4}, {"=S(a1,a2", 5}, {"=Sa1", 2}, {"=S1", 2}, {"=N1", 2}, {"=I1", 2}, {"=C(1,a1", 3},
        {"=K(a1:a2", 5}, {"=L()", 3}, {"=M)", 2}});
  }

  private static void brackets() {
    edge("More than 8 \"(\" may not be open at once");
    faults(new Object[][] {
        {"=((((((((1))))))))", -1}, {"=(((((((((1", 9}, {"=((((((((1)))))))+(1))", -1}, {"=((((((((1)+1)))))))", -1},
        {"=((((((((1)+((1", 13}, {"=((((((((1)+(1)+((1", 17}, {"=(((((((1)+(1)+((1", 18}, {"=((((((((1))))))))+((((((((1))))))))", -1},
        {"=((((((((1))))))))+(((((((((1", 27}, {"=(((((((S(a1))))))))", -1}, {"=((((((((S(a1", 10}, {"=((((((((L(a1", 10},
        {"=((((((((M(a1", 10}, {"=((((((((C(a1", 10}, {"=((((((((I(1", 10}, {"=((((((((K(1", 10}, {"=((((((((N(1", 10},
        {"=(((((((L(a1))))))))", -1}, {"=(((((((M(a1))))))))", -1}, {"=(((((((C(a1,1))))))))", -1},
        {"=(((((((I(1,2,3))))))))", -1}, {"=(((((((K(1,a1,a2))))))))", -1}, {"=(((((((N(1))))))))", -1},
        {"=(((((((C(a1,(1", 13}, {"=(((((((I((1", 10}, {"=(((((((I(1,(1", 12}, {"=(((((((I(1,2,(1", 14}, {"=(((((((K((1", 10},
        {"=(((((((N((1", 10}, {"=((((((C(a1,(1))))))))", -1}, {"=((((((I((1),(2),(3))))))))", -1}, {"=((((((K((1),a1,a2)))))))", -1},
        {"=((((((N((1))))))))", -1}, {"=N(N(N(N(N(N(N(N(1))))))))", -1}, {"=N(N(N(N(N(N(N(N(N(1", 18}, {"='((((((((('", -1},
        {"=((((((((1)))))))))", 18}, {"=((((((((1)))))))", 17},
    });
    due("8 open", shows("a1:6", "=((((((((a1))))))))+1"), "7");
    due("8 functions open", shows("", "=N(N(N(N(N(N(N(N(1/0))))))))"), "false");
    due("8 open at the end", shows("", "=I(T,I(T,I(T,I(T,((((5)))),1),2),3),4)"), "5");
  }

  private static void putsRefused() {
    edge("put: Returns FAULT OF THE INPUT, if there is one (the INPUT stays then)");
    Cellweave x = sheet("a1:1 b1:=a1");
    x.undo();
    type(x, "=a1+");
    idle(x, "put() of a fault", 4, () -> x.put(0));
    due("input()", x.input(), "=a1+");
    type(x, "abcdefghabcdefgha");
    idle(x, "put() of 17 signs", 16, () -> x.put(0));
    edge("put: FAULT OF THE INPUT, if there is one; else -9");
    x.redo();
    x.lock(0, true);
    type(x, "=a1+");
    idle(x, "put() of a fault at a LOCKED PLACE", 4, () -> x.put(0));
    type(x, "=a2+1");
    idle(x, "put() at a LOCKED PLACE", -9, () -> x.put(0));
    due("input()", x.input(), "=a2+1");
    due("the same INPUT elsewhere", x.put(1), -1);
    due("the INPUT is empty then", x.input(), "");
    due("fault()", x.fault(), 0);
    edge("put: if place is not 0 to 159");
    for (int p : new int[] {-1, 160, Integer.MIN_VALUE, Integer.MAX_VALUE}) {
      bad(x, "put(" + p + ") of nothing", () -> x.put(p));
    }
    type(x, "5");
    bad(x, "put(160)", () -> x.put(160));
    due("input()", x.input(), "5");
    due("put(159)", x.put(159), -1);
    type(x, "=)");
    bad(x, "put(-1) of a fault", () -> x.put(-1));
    Cellweave f = full();
    type(f, "=)");
    idle(f, "put() of a fault in a full sheet", 1, () -> f.put(159));
  }

  private static void textOfFormulas() {
    edge("TEXT of a formula: as it was typed");
    String[] all = {"=0007", "=--5", "=a1+$b2-c$3&$d$4", "=S(b2:a1)", "=S(a1:a1)", "=(((1)))", "=''", "='a1$#'",
        "=I(T,X,1)", "=S(n3)", "=O(a1#)", "=F($a$1:b2,n5)", "=K('a',a1,a2:a9)", "=1=1", "=T<X"};
    for (String one : all) {
      due("text", sheet("h9:" + one).text(at("h9")), one);
    }
    edge("(\"?\" for one that is GONE, without \"$\"; a range of which a corner is GONE, or the PLACE ahead of \"#\", is so as a whole)");
    Cellweave x = sheet("d4:=$a4+a$4+a4 e4:=S($a1:e9)+S(e9:a$1)+S(a4#)+S(a4)");
    x.takeOut(true, 0);
    due("PLACES", x.text(at("c4")), "=?+?+?");
    due("it shows", x.value(at("c4")), "#gone");
    due("ranges", x.text(at("d4")), "=S($a1:d9)+S(d9:a$1)+S(?)+S(?)");
    Cellweave y = sheet("b2:=S(a1:$c$3)+S($c3:a1)+S(a1#)&C(a1,b1)");
    y.copy(at("b2"), at("b1"));
    due("a corner GONE", y.text(at("b1")), "=S(?)+S(?)+S(?)&C(?,?)");
    edge("READ anew, \"?\" is what is GONE");
    due("isSound()", "" + x.isSound() + y.isSound(), "truetrue");
    edge("PLACES as they are by then");
    Cellweave z = sheet("a1:=b9+$b$9+S(b8:$b$9)+b9+b9+b9+b9+b9+b9+b9");
    z.putIn(false, 3);
    due("longer than 40 SIGNS", z.text(0), "=b10+$b$10+S(b9:$b$10)+b10+b10+b10+b10+b10+b10+b10");
    due("isSound()", z.isSound(), true);
    due("its value", z.value(0), "0");
    Cellweave l = sheet("h1:=S(a9:b9)+S(a9:b9)+S(a9:b9)+S(a9:b9)+a9");
    l.putIn(false, 0);
    due("all grow", l.text(15), "=S(a10:b10)+S(a10:b10)+S(a10:b10)+S(a10:b10)+a10");
  }
}
