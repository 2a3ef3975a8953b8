/** What the tests of single calls share: sheets made of texts, and how an answer is held against what is due. */
abstract class Bench {
  static final int LAST = 159;

  private static int wrong = 0;
  private static String heading = "";

  /** A call on an object that the test holds. */
  interface Call {
    Object run();
  }

  /** A call on any object. */
  interface Deed {
    Object on(Cellweave x);
  }

  /** Tells which words of the document the calls behind it are about. */
  static void edge(String words) {
    heading = words;
  }

  static void due(String what, Object got, Object want) {
    if (!want.equals(got)) {
      wrong++;
      System.out.println(heading + ": " + what + " is " + got + ", due is " + want);
    }
  }

  static void end() {
    if (wrong > 0) {
      System.exit(1);
    }
  }

  /** The call must throw this, and nothing may be changed by it. */
  static void thrown(Cellweave x, String what, Class<?> kind, Call call) {
    String before = seen(x);
    Object got;
    try {
      got = call.run();
    } catch (RuntimeException e) {
      got = e.getClass();
    }
    due(what, got, kind);
    due(what + " changes something", !seen(x).equals(before), false);
  }

  static void bad(Cellweave x, String what, Call call) {
    thrown(x, what, IllegalArgumentException.class, call);
  }

  static void notNow(Cellweave x, String what, Call call) {
    thrown(x, what, IllegalStateException.class, call);
  }

  /** The call must answer this, and nothing may be changed by it. */
  static void idle(Cellweave x, String what, Object answer, Call call) {
    String before = seen(x);
    due(what, call.run(), answer);
    due(what + " changes something", !seen(x).equals(before), false);
  }

  /** All that can be asked for without a change. */
  static String seen(Cellweave x) {
    StringBuilder b = new StringBuilder(x.all()).append('\n').append(x.input()).append('\n');
    for (int p = 0; p <= LAST; p++) {
      b.append(x.value(p)).append(' ').append(x.source(p)).append(' ');
      for (int what = 0; what <= 10; what++) {
        b.append(x.ofPlace(p, what)).append(' ');
      }
    }
    for (int i = 0; i < 6; i++) {
      b.append(x.named(i)).append(' ');
    }
    for (int i = 0; i < 3; i++) {
      b.append(x.differs(i)).append(',');
    }
    for (int what = 0; what <= 11; what++) {
      b.append(x.house(what)).append(' ');
    }
    return b.append(x.reckoned()).append(',').append(x.bad()).append(',').append(x.digest()).toString();
  }

  static void type(Cellweave x, String text) {
    x.rub(40);
    for (int i = 0; i < text.length(); i++) {
      x.sign(Model.SIGNS.indexOf(text.charAt(i)));
    }
  }

  static int at(String place) {
    return Model.placeNamed(place);
  }

  static int set(Cellweave x, String place, String text) {
    type(x, text);
    return x.put(at(place));
  }

  /** A sheet of texts like "a1:5 b1:=a1". */
  static Cellweave sheet(String cells) {
    Cellweave x = new Cellweave();
    for (String cell : cells.split(" ")) {
      if (!cell.isEmpty()) {
        int colon = cell.indexOf(':');
        due("put of " + cell, set(x, cell.substring(0, colon), cell.substring(colon + 1)), -1);
      }
    }
    return x;
  }

  /** What a formula shows at h20 of a sheet. */
  static String shows(String cells, String formula) {
    Cellweave x = sheet(cells);
    due("put of " + formula, set(x, "h20", formula), -1);
    return x.value(LAST);
  }

  static int faultOf(String text) {
    Cellweave x = new Cellweave();
    type(x, text);
    return x.fault();
  }

  /** 60 CELLS, all of them 7, from a1 to d8. */
  static Cellweave full() {
    Cellweave x = sheet("a1:7");
    due("fill", x.fill(0, 0, at("h7")), 55);
    due("fill", x.fill(0, at("a8"), at("d8")), 4);
    due("cells", x.house(0), 60);
    return x;
  }

  /** What is shown from a PLACE on downwards, with "," between, so many PLACES. */
  static String column(Cellweave x, String top, int many) {
    StringBuilder b = new StringBuilder();
    for (int i = 0; i < many; i++) {
      b.append(i > 0 ? "," : "").append(x.value(at(top) + 8 * i));
    }
    return b.toString();
  }
}
