import java.math.BigInteger;
import java.util.ArrayList;
import java.util.Arrays;
import java.util.Collections;
import java.util.List;
import java.util.TreeSet;
import java.util.regex.Matcher;
import java.util.regex.Pattern;

/**
 * The document once more, slow and plain, on texts and BigIntegers: what RandomRuns holds Cellweave
 * against. It shares no code with it.
 */
final class Model {
  static final String SIGNS = "0123456789abcdefgh$:#+-*&=</(),'nSLMCIKOFUNTX";
  static final String PLACE = "(\\$?)([a-h])(\\$?)(20|1[0-9]|[1-9])";

  /** A value; kind as ofPlace(0) tells it. */
  static final class V {
    final int kind;
    final BigInteger n;
    final BigInteger d;
    final String s;

    V(int kind, BigInteger n, BigInteger d, String s) {
      this.kind = kind;
      this.n = n;
      this.d = d;
      this.s = s;
    }

    String shown() {
      return kind == 1 ? (d.equals(BigInteger.ONE) ? n.toString() : n + "/" + d) : s;
    }

    boolean alike(V o) {
      return kind == o.kind && shown().equals(o.shown());
    }

    boolean isFault() {
      return kind == 4;
    }
  }

  static final V NOTHING = new V(0, null, null, "");

  static V fault(String s) {
    return new V(4, null, null, "#" + s);
  }

  static V string(String s) {
    return s.length() > 16 ? fault("long") : new V(2, null, null, s);
  }

  static V truth(boolean is) {
    return new V(3, null, null, is ? "true" : "false");
  }

  static V number(BigInteger n, BigInteger d) {
    BigInteger g = n.gcd(d);
    BigInteger a = n.divide(g);
    BigInteger b = d.divide(g);
    if (b.signum() < 0) {
      a = a.negate();
      b = b.negate();
    }
    boolean isLong = a.abs().bitLength() > 90 || b.bitLength() > 90;
    return isLong ? fault("long") : new V(1, a, b, null);
  }

  static V number(long n) {
    return number(BigInteger.valueOf(n), BigInteger.ONE);
  }

  static final class C {
    final V constant;
    final String formula;

    C(V constant, String formula) {
      this.constant = constant;
      this.formula = formula;
    }

    String text() {
      return constant != null ? constant.shown() : formula;
    }

    boolean isList() {
      return formula != null && formula.length() > 1 && "OUF".indexOf(formula.charAt(1)) >= 0;
    }
  }

  static final class State {
    C[] cells = new C[160];
    boolean[] locked = new boolean[160];
    int[][] checks = new int[160][];
    String[] names = new String[6];

    State copy() {
      State s = new State();
      s.cells = cells.clone();
      s.locked = locked.clone();
      s.checks = checks.clone();
      s.names = names.clone();
      return s;
    }

    int count() {
      int k = 0;
      for (C c : cells) {
        if (c != null) {
          k++;
        }
      }
      return k;
    }
  }

  // ---- reading

  static final class Unread extends RuntimeException {
    final int at;

    Unread(int at) {
      super(null, null, false, false);
      this.at = at;
    }
  }

  /** Goes through a text by the grammar; with a sheet it also tells what comes. */
  static final class Walk {
    final String t;
    final Shows w;
    int at;
    int open;

    Walk(String t, Shows w) {
      this.t = t;
      this.w = w;
    }

    char look() {
      return at < t.length() ? t.charAt(at) : 0;
    }

    void want(char c) {
      if (look() != c) {
        throw new Unread(at);
      }
      if (c == '(') {
        if (open == 8) {
          throw new Unread(at);
        }
        open++;
      }
      if (c == ')') {
        open--;
      }
      at++;
    }

    V zero(V v) {
      return v.kind == 0 ? number(0) : v;
    }

    V expression() {
      V a = sum();
      char c = look();
      if (c == '=' || c == '<') {
        at++;
        V b = sum();
        if (a.isFault()) {
          return a;
        }
        if (b.isFault()) {
          return b;
        }
        if (c == '=') {
          return truth(a.alike(b));
        }
        a = zero(a);
        b = zero(b);
        if (a.kind != b.kind) {
          return fault("kind");
        }
        return truth(order(a, b) < 0);
      }
      return a;
    }

    V sum() {
      V a = product();
      while (look() == '+' || look() == '-' || look() == '&') {
        char c = look();
        at++;
        a = both(c, a, product());
      }
      return a;
    }

    V product() {
      V a = factor();
      while (look() == '*' || look() == '/') {
        char c = look();
        at++;
        a = both(c, a, factor());
      }
      return a;
    }

    V both(char c, V a, V b) {
      if (a.isFault()) {
        return a;
      }
      if (b.isFault()) {
        return b;
      }
      if (c == '&') {
        return string(a.shown() + b.shown());
      }
      a = zero(a);
      b = zero(b);
      if (a.kind != 1 || b.kind != 1) {
        return fault("kind");
      }
      switch (c) {
        case '+':
          return number(a.n.multiply(b.d).add(b.n.multiply(a.d)), a.d.multiply(b.d));
        case '-':
          return number(a.n.multiply(b.d).subtract(b.n.multiply(a.d)), a.d.multiply(b.d));
        case '*':
          return number(a.n.multiply(b.n), a.d.multiply(b.d));
        default:
          return b.n.signum() == 0 ? fault("zero") : number(a.n.multiply(b.d), a.d.multiply(b.n));
      }
    }

    V factor() {
      char c = look();
      if (c == '-') {
        at++;
        V v = factor();
        if (v.isFault()) {
          return v;
        }
        v = zero(v);
        return v.kind == 1 ? number(v.n.negate(), v.d) : fault("kind");
      }
      if (Character.isDigit(c)) {
        int from = at;
        while (Character.isDigit(look()) && at - from < 4) {
          at++;
        }
        return number(Integer.parseInt(t.substring(from, at)));
      }
      if (c == '\'') {
        at++;
        int from = at;
        while (look() != '\'' && look() != 0 && at - from < 9) {
          at++;
        }
        String s = t.substring(from, at);
        want('\'');
        return string(s);
      }
      if (c == 'T' || c == 'X') {
        at++;
        return truth(c == 'T');
      }
      if (c == '(') {
        want('(');
        V v = expression();
        want(')');
        return v;
      }
      if (c != 0 && "SLMCIKN".indexOf(c) >= 0) {
        at++;
        want('(');
        V v = function(c);
        want(')');
        return v;
      }
      int p = place();
      return w == null ? NOTHING : p < 0 ? fault("gone") : w.shown[p];
    }

    V function(char c) {
      switch (c) {
        case 'S':
        case 'L':
        case 'M':
          return overRange(c, range());
        case 'C': {
          List<Integer> r = range();
          want(',');
          V v = expression();
          if (rangeFault(r) != null) {
            return rangeFault(r);
          }
          if (v.isFault()) {
            return v;
          }
          int k = 0;
          for (int p : r) {
            if (w != null && w.shown[p].alike(zero(v))) {
              k++;
            }
          }
          return number(k);
        }
        case 'I': {
          V a = expression();
          want(',');
          V b = expression();
          want(',');
          V d = expression();
          if (a.isFault()) {
            return a;
          }
          return a.kind != 3 ? fault("kind") : zero(a.s.equals("true") ? b : d);
        }
        case 'K': {
          V v = expression();
          want(',');
          List<Integer> r = range();
          want(',');
          List<Integer> q = range();
          if (v.isFault()) {
            return v;
          }
          if (rangeFault(r) != null) {
            return rangeFault(r);
          }
          if (rangeFault(q) != null) {
            return rangeFault(q);
          }
          for (int i = 0; w != null && i < r.size(); i++) {
            if (w.shown[r.get(i)].alike(zero(v))) {
              return i < q.size() ? zero(w.shown[q.get(i)]) : fault("none");
            }
          }
          return fault("none");
        }
        default:
          return truth(expression().isFault());
      }
    }

    V overRange(char c, List<Integer> r) {
      if (rangeFault(r) != null) {
        return rangeFault(r);
      }
      if (w == null) {
        return NOTHING;
      }
      List<V> numbers = new ArrayList<>();
      for (int p : r) {
        if (w.shown[p].isFault()) {
          return w.shown[p];
        }
        if (w.shown[p].kind == 1) {
          numbers.add(w.shown[p]);
        }
      }
      if (c == 'S') {
        BigInteger n = BigInteger.ZERO;
        BigInteger d = BigInteger.ONE;
        for (V v : numbers) {
          n = n.multiply(v.d).add(v.n.multiply(d));
          d = d.multiply(v.d);
        }
        return number(n, d);
      }
      V best = null;
      for (V v : numbers) {
        if (best == null || (c == 'L' ? order(v, best) < 0 : order(v, best) > 0)) {
          best = v;
        }
      }
      return best == null ? fault("none") : best;
    }

    /** The places; a list of one number below 0 is a fault. */
    List<Integer> range() {
      if (look() == 'n') {
        at++;
        char c = look();
        if (c < '0' || c > '5') {
          throw new Unread(at);
        }
        at++;
        if (w == null) {
          return Collections.emptyList();
        }
        String told = w.state.names[c - '0'];
        return told == null ? Arrays.asList(-2) : between(told);
      }
      int p = place();
      if (p == -1) {
        return Arrays.asList(-1);
      }
      if (look() == ':') {
        at++;
        if (look() == '?') {
          throw new Unread(at);
        }
        return between(shown(p) + ":" + shown(place()));
      }
      if (look() == '#') {
        at++;
        List<Integer> r = new ArrayList<>();
        r.add(p);
        for (int i = 1; w != null && i < w.spans[p]; i++) {
          r.add(p + 8 * i);
        }
        return r;
      }
      return Arrays.asList(p);
    }

    V rangeFault(List<Integer> r) {
      if (r.size() != 1 || r.get(0) >= 0) {
        return null;
      }
      return fault(r.get(0) == -1 ? "gone" : "name");
    }

    int place() {
      if (look() == '?') {
        at++;
        return -1;
      }
      if (look() == '$') {
        at++;
      }
      int column = "abcdefgh".indexOf(look());
      if (column < 0 || look() == 0) {
        throw new Unread(at);
      }
      at++;
      if (look() == '$') {
        at++;
      }
      if (look() < '1' || look() > '9') {
        throw new Unread(at);
      }
      int row = look() - '0';
      at++;
      if (Character.isDigit(look()) && row * 10 + look() - '0' <= 20) {
        row = row * 10 + look() - '0';
        at++;
      }
      return (row - 1) * 8 + column;
    }

    /** null if it came to a value, which stands in came then. */
    List<V> list() {
      char c = look();
      at++;
      want('(');
      List<Integer> r = range();
      List<Integer> q = null;
      if (c == 'F') {
        want(',');
        q = range();
      }
      want(')');
      if (w == null) {
        return null;
      }
      came = rangeFault(r) != null ? rangeFault(r) : q != null ? rangeFault(q) : null;
      if (came != null) {
        return null;
      }
      List<V> all = new ArrayList<>();
      for (int i = 0; i < r.size(); i++) {
        V v = w.shown[r.get(i)];
        if (c == 'F') {
          if (i < q.size() && w.shown[q.get(i)].alike(truth(true))) {
            all.add(zero(v));
          }
        } else if (v.kind != 0) {
          boolean has = false;
          for (V o : all) {
            has |= o.alike(v);
          }
          if (c == 'O' || !has) {
            all.add(v);
          }
        }
      }
      if (c == 'O') {
        all.sort(Model::order);
      }
      if (all.isEmpty()) {
        came = fault("none");
        return null;
      }
      return all;
    }

    V came;
  }

  static int order(V a, V b) {
    if (a.kind != b.kind) {
      return (a.kind == 0 ? 9 : a.kind) - (b.kind == 0 ? 9 : b.kind);
    }
    switch (a.kind) {
      case 1:
        return a.n.multiply(b.d).compareTo(b.n.multiply(a.d));
      case 2:
        return a.s.compareTo(b.s);
      case 3:
        return a.s.compareTo(b.s);
      default:
        return 0;
    }
  }

  static List<Integer> between(String corners) {
    int a = placeNamed(corners.substring(0, corners.indexOf(':')));
    int b = placeNamed(corners.substring(corners.indexOf(':') + 1));
    List<Integer> r = new ArrayList<>();
    for (int row = Math.min(a / 8, b / 8); row <= Math.max(a / 8, b / 8); row++) {
      for (int c = Math.min(a % 8, b % 8); c <= Math.max(a % 8, b % 8); c++) {
        r.add(row * 8 + c);
      }
    }
    return r;
  }

  static String shown(int place) {
    return "" + (char) ('a' + place % 8) + (place / 8 + 1);
  }

  static int placeNamed(String s) {
    return (Integer.parseInt(s.substring(1)) - 1) * 8 + s.charAt(0) - 'a';
  }

  static int faultOf(String t) {
    if (t.isEmpty()) {
      return 0;
    }
    if (t.charAt(0) != '=') {
      return t.length() > 16 ? 16 : -1;
    }
    Walk walk = new Walk(t, null);
    walk.at = 1;
    try {
      if (t.length() > 1 && "OUF".indexOf(t.charAt(1)) >= 0) {
        walk.list();
      } else {
        walk.expression();
      }
    } catch (Unread e) {
      return e.at;
    }
    return walk.at == t.length() ? -1 : walk.at;
  }

  static C read(String t) {
    if (t.charAt(0) == '=') {
      return new C(null, t);
    }
    Matcher m = Pattern.compile("(-?[0-9]{1,6})(?:/([0-9]{1,3}))?").matcher(t);
    if (m.matches() && (m.group(2) == null || Integer.parseInt(m.group(2)) != 0)) {
      return new C(number(new BigInteger(m.group(1)),
          m.group(2) == null ? BigInteger.ONE : new BigInteger(m.group(2))), null);
    }
    return new C(string(t), null);
  }

  /** A formula's pieces: quoted texts, places, ranges as wholes, and all else sign by sign. */
  static List<String> pieces(String formula) {
    List<String> all = new ArrayList<>();
    Matcher m = Pattern.compile("'[^']*'|" + PLACE + ":" + PLACE + "|" + PLACE + "#|" + PLACE
        + "|n[0-5]|.").matcher(formula);
    while (m.find()) {
      all.add(m.group());
    }
    return all;
  }

  // ---- reckoning

  static final class Shows {
    final State state;
    final V[] shown = new V[160];
    final int[] source = new int[160];
    final int[] spans = new int[160];
    final int[] level = new int[160];
    final List<TreeSet<Integer>> needs = new ArrayList<>();
    final List<TreeSet<Integer>> leans = new ArrayList<>();

    Shows(State state) {
      this.state = state;
      Arrays.fill(shown, NOTHING);
      Arrays.fill(source, -1);
      for (int p = 0; p < 160; p++) {
        needs.add(new TreeSet<>());
        leans.add(new TreeSet<>());
      }
      for (int p = 0; p < 160; p++) {
        if (state.cells[p] != null) {
          source[p] = p;
          for (int r : reads(state, state.cells[p])) {
            int q = r;
            while (q >= 0 && state.cells[q] == null) {
              q -= 8;
            }
            if (q >= 0 && (q == r || state.cells[q].isList())) {
              needs.get(p).add(q);
            }
          }
        }
      }
      for (int p = 0; p < 160; p++) {
        List<Integer> todo = new ArrayList<>(needs.get(p));
        while (!todo.isEmpty()) {
          int q = todo.remove(todo.size() - 1);
          if (leans.get(p).add(q)) {
            todo.addAll(needs.get(q));
          }
        }
      }
      boolean[] done = new boolean[160];
      for (int p = 0; p < 160; p++) {
        if (state.cells[p] != null && isLost(p)) {
          shown[p] = fault("circle");
          level[p] = -1;
          done[p] = true;
        }
      }
      for (int p = 0; p < 160; p++) {
        if (state.cells[p] != null) {
          reckon(p, done);
        }
      }
    }

    boolean onRing(int p) {
      return leans.get(p).contains(p);
    }

    boolean isLost(int p) {
      boolean is = onRing(p);
      for (int q : leans.get(p)) {
        is |= onRing(q);
      }
      return is;
    }

    void reckon(int p, boolean[] done) {
      if (done[p]) {
        return;
      }
      done[p] = true;
      for (int q : needs.get(p)) {
        reckon(q, done);
        level[p] = Math.max(level[p], level[q] + 1);
      }
      C c = state.cells[p];
      if (c.constant != null) {
        shown[p] = c.constant;
        return;
      }
      Walk walk = new Walk(c.formula, this);
      walk.at = 1;
      if (!c.isList()) {
        shown[p] = walk.zero(walk.expression());
        return;
      }
      List<V> all = walk.list();
      if (all == null) {
        shown[p] = walk.came;
        return;
      }
      for (int i = 1; i < all.size(); i++) {
        if (p + 8 * i >= 160 || state.cells[p + 8 * i] != null) {
          shown[p] = fault("bar");
          return;
        }
      }
      for (int i = 0; i < all.size(); i++) {
        shown[p + 8 * i] = all.get(i);
        source[p + 8 * i] = p;
      }
      spans[p] = all.size();
    }
  }

  static TreeSet<Integer> reads(State state, C c) {
    TreeSet<Integer> r = new TreeSet<>();
    if (c.formula == null) {
      return r;
    }
    for (String piece : pieces(c.formula)) {
      if (piece.matches(PLACE + ":" + PLACE)) {
        r.addAll(between(piece.replace("$", "")));
      } else if (piece.matches(PLACE + "#")) {
        for (int p = placeNamed(piece.replace("$", "").replace("#", "")); p < 160; p += 8) {
          r.add(p);
        }
      } else if (piece.matches(PLACE)) {
        r.add(placeNamed(piece.replace("$", "")));
      } else if (piece.matches("n[0-5]") && state.names[piece.charAt(1) - '0'] != null) {
        r.addAll(between(state.names[piece.charAt(1) - '0']));
      }
    }
    return r;
  }

  // ---- changing texts

  interface Goes {
    /** The place that a place becomes, -1 if it is gone. */
    int to(int place, boolean isColumnHeld, boolean isRowHeld);
  }

  static String goneTo(String place, Goes g) {
    Matcher m = Pattern.compile(PLACE).matcher(place);
    m.matches();
    int p = g.to(placeNamed(m.group(2) + m.group(4)), !m.group(1).isEmpty(), !m.group(3).isEmpty());
    return p < 0 ? "?" : m.group(1) + shown(p).charAt(0) + m.group(3) + shown(p).substring(1);
  }

  static C goneTo(C c, Goes g) {
    if (c == null || c.formula == null) {
      return c;
    }
    StringBuilder b = new StringBuilder();
    for (String piece : pieces(c.formula)) {
      if (piece.matches(PLACE + ":" + PLACE)) {
        String one = goneTo(piece.substring(0, piece.indexOf(':')), g);
        String two = goneTo(piece.substring(piece.indexOf(':') + 1), g);
        b.append(one.equals("?") || two.equals("?") ? "?" : one + ":" + two);
      } else if (piece.matches(PLACE + "#")) {
        String one = goneTo(piece.substring(0, piece.length() - 1), g);
        b.append(one.equals("?") ? "?" : one + "#");
      } else {
        b.append(piece.matches(PLACE) ? goneTo(piece, g) : piece);
      }
    }
    return new C(null, b.toString());
  }

  // ---- the object

  StringBuilder typed = new StringBuilder();
  State state = new State();
  Shows now = new Shows(state);
  List<State> past = new ArrayList<>();
  List<State> future = new ArrayList<>();
  boolean isOpen;
  boolean isBegun;
  State[] versions = {new State(), new State(), new State()};
  TreeSet<Integer> reckoned = new TreeSet<>();
  int ever;
  int knocks;

  static void demand(boolean is) {
    if (!is) {
      throw new IllegalArgumentException();
    }
  }

  static void demandPlace(int p) {
    demand(p >= 0 && p <= 159);
  }

  int sign(int s) {
    demand(s >= 0 && s <= 44);
    if (typed.length() == 40) {
      throw new IllegalStateException();
    }
    return typed.append(SIGNS.charAt(s)).length();
  }

  int place(int p, int held) {
    demandPlace(p);
    demand(held >= 0 && held <= 3);
    String s = (held >= 2 ? "$" : "") + shown(p).charAt(0) + (held % 2 == 1 ? "$" : "")
        + shown(p).substring(1);
    if (typed.length() + s.length() > 40) {
      throw new IllegalStateException();
    }
    return typed.append(s).length();
  }

  int rub(int many) {
    demand(many >= 0);
    typed.setLength(Math.max(0, typed.length() - Math.min(many, 100)));
    return typed.length();
  }

  String input() {
    return typed.toString();
  }

  int fault() {
    return faultOf(typed.toString());
  }

  void edited(State next, TreeSet<Integer> written) {
    if (!isBegun) {
      past.add(state);
      if (past.size() > 12) {
        past.remove(0);
      }
      isBegun = isOpen;
    }
    future.clear();
    take(next, written);
  }

  static TreeSet<Integer> everywhere() {
    TreeSet<Integer> r = new TreeSet<>();
    for (int p = 0; p < 160; p++) {
      r.add(p);
    }
    return r;
  }

  static TreeSet<Integer> only(Integer... places) {
    return new TreeSet<>(Arrays.asList(places));
  }

  void take(State next, TreeSet<Integer> written) {
    Shows old = now;
    state = next;
    now = new Shows(state);
    reckoned = new TreeSet<>();
    for (int p = 0; p < 160; p++) {
      C c = state.cells[p];
      if (c == null || c.formula == null || now.shown[p].shown().equals("#circle")) {
        continue;
      }
      boolean is = written.contains(p) || old.shown[p].shown().equals("#circle");
      for (int r : reads(state, c)) {
        is |= !old.shown[r].alike(now.shown[r]);
      }
      for (String piece : pieces(c.formula)) {
        if (piece.matches(PLACE + "#")) {
          int q = placeNamed(piece.replace("$", "").replace("#", ""));
          is |= old.spans[q] != now.spans[q];
        }
      }
      if (is) {
        reckoned.add(p);
      }
    }
    ever += reckoned.size();
  }

  int put(int p) {
    demandPlace(p);
    int f = fault();
    if (f != -1) {
      return f;
    }
    State next = state.copy();
    next.cells[p] = read(typed.toString());
    if (state.locked[p] || next.count() > 60) {
      return -9;
    }
    typed.setLength(0);
    edited(next, only(p));
    return -1;
  }

  int clear(int p) {
    demandPlace(p);
    if (state.locked[p]) {
      return -9;
    }
    State next = state.copy();
    next.cells[p] = null;
    edited(next, only(p));
    return reckoned.size();
  }

  static C copied(C c, int from, int to) {
    int rows = to / 8 - from / 8;
    int columns = to % 8 - from % 8;
    return goneTo(c, (p, isColumnHeld, isRowHeld) -> {
      int r = p / 8 + (isRowHeld ? 0 : rows);
      int k = p % 8 + (isColumnHeld ? 0 : columns);
      return r < 0 || r > 19 || k < 0 || k > 7 ? -1 : r * 8 + k;
    });
  }

  int copy(int from, int to) {
    demandPlace(from);
    demandPlace(to);
    State next = state.copy();
    next.cells[to] = copied(state.cells[from], from, to);
    if (state.locked[to] || next.count() > 60) {
      return -9;
    }
    edited(next, only(to));
    return reckoned.size();
  }

  int fill(int from, int one, int other) {
    demandPlace(from);
    demandPlace(one);
    demandPlace(other);
    State next = state.copy();
    TreeSet<Integer> w = new TreeSet<>(between(shown(one) + ":" + shown(other)));
    w.remove(from);
    for (int p : w) {
      next.cells[p] = copied(state.cells[from], from, p);
      if (state.locked[p]) {
        return -9;
      }
    }
    if (next.count() > 60) {
      return -9;
    }
    edited(next, w);
    return w.size();
  }

  String goOn(int first, int many) {
    demandPlace(first);
    demand(many >= 1 && many <= 18);
    if (first / 8 + 1 + many > 19) {
      return "-9";
    }
    C a = state.cells[first];
    C b = state.cells[first + 8];
    if (a == null || b == null || a.constant == null || b.constant == null
        || a.constant.kind != 1 || b.constant.kind != 1) {
      return "-9";
    }
    Walk walk = new Walk("", null);
    V more = walk.both('-', b.constant, a.constant);
    V v = b.constant;
    State next = state.copy();
    TreeSet<Integer> w = new TreeSet<>();
    for (int i = 0; i < many; i++) {
      v = walk.both('+', v, more);
      int p = first + 16 + 8 * i;
      if (v.isFault() || state.locked[p]) {
        return "-9";
      }
      next.cells[p] = new C(v, null);
      w.add(p);
    }
    if (next.count() > 60) {
      return "-9";
    }
    edited(next, w);
    return v.shown();
  }

  static int line(boolean isColumn, int p) {
    return isColumn ? p % 8 : p / 8;
  }

  static int withLine(boolean isColumn, int p, int line) {
    return isColumn ? p / 8 * 8 + line : line * 8 + p % 8;
  }

  static void demandLine(boolean isColumn, int at) {
    demand(at >= 0 && at < (isColumn ? 8 : 20));
  }

  /** All that stands somewhere stands elsewhere then; -1 is gone. */
  State rearranged(boolean isColumn, int[] lineTo, int takenOut) {
    State next = new State();
    Goes g = (p, x, y) -> {
      int l = lineTo[line(isColumn, p)];
      return l < 0 ? -1 : withLine(isColumn, p, l);
    };
    for (int p = 0; p < 160; p++) {
      int q = g.to(p, false, false);
      if (q >= 0) {
        C c = state.cells[p];
        if (c != null && c.formula != null) {
          c = new C(null, smaller(c.formula, isColumn, takenOut));
        }
        next.cells[q] = goneTo(c, g);
        next.locked[q] = state.locked[p];
        next.checks[q] = state.checks[p];
      }
    }
    for (int i = 0; i < 6; i++) {
      if (state.names[i] != null) {
        C c = goneTo(new C(null, smaller(state.names[i], isColumn, takenOut)), g);
        next.names[i] = c.formula.equals("?") ? null : inOrder(c.formula);
      }
    }
    return next;
  }

  static String inOrder(String corners) {
    List<Integer> r = between(corners);
    return shown(r.get(0)) + ":" + shown(r.get(r.size() - 1));
  }

  /** Draws a corner in the line that is taken out a line nearer to its partner, ahead of that. */
  static String smaller(String formula, boolean isColumn, int takenOut) {
    StringBuilder b = new StringBuilder();
    for (String piece : pieces(formula)) {
      if (takenOut >= 0 && piece.matches(PLACE + ":" + PLACE)) {
        String one = piece.substring(0, piece.indexOf(':'));
        String two = piece.substring(piece.indexOf(':') + 1);
        int p = placeNamed(one.replace("$", ""));
        int q = placeNamed(two.replace("$", ""));
        int l = line(isColumn, p);
        int m = line(isColumn, q);
        if (l != m && (l == takenOut || m == takenOut)) {
          int p2 = l == takenOut ? withLine(isColumn, p, l + (l < m ? 1 : -1)) : p;
          int q2 = m == takenOut ? withLine(isColumn, q, m + (m < l ? 1 : -1)) : q;
          one = goneTo(one, (x, y, z) -> p2);
          two = goneTo(two, (x, y, z) -> q2);
        }
        b.append(one).append(':').append(two);
      } else {
        b.append(piece);
      }
    }
    return b.toString();
  }

  boolean canPutIn(boolean isColumn) {
    int last = isColumn ? 7 : 19;
    for (int p = 0; p < 160; p++) {
      if (line(isColumn, p) == last
          && (state.cells[p] != null || state.locked[p] || state.checks[p] != null)) {
        return false;
      }
      if (state.cells[p] != null && state.cells[p].formula != null) {
        Matcher m = Pattern.compile(PLACE).matcher(state.cells[p].formula.replaceAll("'[^']*'", "''"));
        while (m.find()) {
          if (line(isColumn, placeNamed(m.group(2) + m.group(4))) == last) {
            return false;
          }
        }
      }
    }
    for (String n : state.names) {
      if (n != null && between(n).stream().anyMatch(p -> line(isColumn, p) == last)) {
        return false;
      }
    }
    return true;
  }

  int cellsIn(boolean isColumn, int from, int to) {
    int k = 0;
    for (int p = 0; p < 160; p++) {
      if (line(isColumn, p) >= from && line(isColumn, p) <= to && state.cells[p] != null) {
        k++;
      }
    }
    return k;
  }

  int putIn(boolean isColumn, int at) {
    demandLine(isColumn, at);
    if (!canPutIn(isColumn)) {
      return -9;
    }
    int[] to = new int[20];
    for (int i = 0; i < 20; i++) {
      to[i] = i >= at ? Math.min(i + 1, 19) : i;
    }
    if (isColumn) {
      to[7] = 7;
    }
    to[isColumn ? 7 : 19] = -1;
    int k = cellsIn(isColumn, at, 20);
    edited(rearranged(isColumn, to, -1), everywhere());
    return k;
  }

  int takeOut(boolean isColumn, int at) {
    demandLine(isColumn, at);
    for (int p = 0; p < 160; p++) {
      if (line(isColumn, p) == at && state.locked[p]) {
        return -9;
      }
    }
    int[] to = new int[20];
    for (int i = 0; i < 20; i++) {
      to[i] = i == at ? -1 : i > at ? i - 1 : i;
    }
    int k = cellsIn(isColumn, at, at);
    edited(rearranged(isColumn, to, at), everywhere());
    return k;
  }

  int move(boolean isColumn, int from, int to) {
    demandLine(isColumn, from);
    demandLine(isColumn, to);
    List<Integer> lines = new ArrayList<>();
    for (int i = 0; i < (isColumn ? 8 : 20); i++) {
      lines.add(i);
    }
    lines.remove(from);
    lines.add(to, from);
    int[] goes = new int[20];
    for (int i = 0; i < lines.size(); i++) {
      goes[lines.get(i)] = i;
    }
    int k = from == to ? 0 : cellsIn(isColumn, Math.min(from, to), Math.max(from, to));
    edited(rearranged(isColumn, goes, -1), everywhere());
    return k;
  }

  int sort(int first, int last, int column) {
    demand(first >= 0 && first <= 19 && last >= first && last <= 19 && column >= 0 && column <= 7);
    List<Integer> rows = new ArrayList<>();
    for (int r = first; r <= last; r++) {
      rows.add(r);
      for (int p = r * 8; p < r * 8 + 8; p++) {
        if (state.locked[p] || state.cells[p] != null && state.cells[p].formula != null) {
          return -9;
        }
      }
    }
    rows.sort((a, b) -> order(now.shown[a * 8 + column], now.shown[b * 8 + column]));
    State next = state.copy();
    int k = 0;
    for (int i = 0; i < rows.size(); i++) {
      k += rows.get(i) != first + i ? 1 : 0;
      for (int c = 0; c < 8; c++) {
        next.cells[(first + i) * 8 + c] = state.cells[rows.get(i) * 8 + c];
      }
    }
    edited(next, everywhere());
    return k;
  }

  int name(int name, int one, int other) {
    demand(name >= 0 && name <= 5 && one >= -1 && one <= 159);
    demand(one == -1 || other >= 0 && other <= 159);
    State next = state.copy();
    next.names[name] = one == -1 ? null : inOrder(shown(one) + ":" + shown(other));
    int was = state.names[name] == null ? 0 : 1;
    edited(next, everywhere());
    return was;
  }

  int lock(int p, boolean is) {
    demandPlace(p);
    State next = state.copy();
    int was = state.locked[p] ? 1 : 0;
    next.locked[p] = is;
    edited(next, only());
    return was;
  }

  int check(int p, int least, int greatest) {
    demandPlace(p);
    State next = state.copy();
    next.checks[p] = greatest < least ? null : new int[] {least, greatest};
    edited(next, only());
    return isBad(p) ? 1 : 0;
  }

  boolean isBad(int p) {
    if (state.checks[p] == null || now.shown[p].kind == 0) {
      return false;
    }
    V v = now.shown[p];
    return v.kind != 1 || v.n.compareTo(v.d.multiply(BigInteger.valueOf(state.checks[p][0]))) < 0
        || v.n.compareTo(v.d.multiply(BigInteger.valueOf(state.checks[p][1]))) > 0;
  }

  V tried(int in, int out, int number) {
    State s = state.copy();
    s.cells[in] = new C(number(number), null);
    return new Shows(s).shown[out];
  }

  int goal(int in, int out, int from, int to, int wanted) {
    demandPlace(in);
    demandPlace(out);
    demand(from >= -999 && from <= 999 && to >= from && to <= from + 20);
    if (state.locked[in] || state.cells[in] == null && state.count() == 60) {
      return -9999;
    }
    for (int n = from; n <= to; n++) {
      if (tried(in, out, n).alike(number(wanted))) {
        State next = state.copy();
        next.cells[in] = new C(number(n), null);
        edited(next, only(in));
        return n;
      }
    }
    return -10000;
  }

  static boolean same(C a, C b) {
    return (a == null ? "" : a.text()).equals(b == null ? "" : b.text());
  }

  static boolean same(String a, String b) {
    return a == null ? b == null : a.equals(b);
  }

  int back(int version) {
    demand(version >= 0 && version <= 2);
    State next = state.copy();
    int k = 0;
    for (int p = 0; p < 160; p++) {
      if (!same(next.cells[p], versions[version].cells[p])) {
        next.cells[p] = versions[version].cells[p];
        k++;
      }
    }
    next.names = versions[version].names.clone();
    edited(next, everywhere());
    return k;
  }

  int join(int base, int other) {
    demand(base >= 0 && base <= 2);
    demand(other >= 0 && other <= 2);
    State b = versions[base];
    State o = versions[other];
    State next = state.copy();
    int conflicts = 0;
    for (int p = 0; p < 160; p++) {
      if (same(state.cells[p], o.cells[p])) {
        continue;
      }
      if (same(state.cells[p], b.cells[p])) {
        next.cells[p] = o.cells[p];
      } else if (!same(o.cells[p], b.cells[p])) {
        conflicts++;
      }
    }
    for (int i = 0; i < 6; i++) {
      if (!same(state.names[i], o.names[i]) && same(state.names[i], b.names[i])) {
        next.names[i] = o.names[i];
      }
    }
    if (next.count() > 60) {
      return -9;
    }
    edited(next, everywhere());
    return conflicts;
  }

  int open() {
    isOpen = true;
    isBegun = false;
    return past.size();
  }

  int close() {
    boolean was = isOpen;
    isOpen = false;
    isBegun = false;
    return was ? past.size() : -1;
  }

  int undo() {
    if (past.isEmpty()) {
      throw new IllegalStateException();
    }
    close();
    future.add(state);
    take(past.remove(past.size() - 1), everywhere());
    return past.size();
  }

  int redo() {
    if (future.isEmpty()) {
      throw new IllegalStateException();
    }
    close();
    past.add(state);
    take(future.remove(future.size() - 1), everywhere());
    return future.size();
  }

  int keep(int version) {
    demand(version >= 0 && version <= 2);
    int k = differing(version).size();
    versions[version] = state.copy();
    return k;
  }

  TreeSet<Integer> differing(int version) {
    TreeSet<Integer> r = new TreeSet<>();
    for (int p = 0; p < 160; p++) {
      if (!same(state.cells[p], versions[version].cells[p])) {
        r.add(p);
      }
    }
    return r;
  }

  static String told(TreeSet<Integer> places) {
    StringBuilder b = new StringBuilder();
    for (int p : places) {
      b.append(b.length() > 0 ? " " : "").append(p);
    }
    return b.toString();
  }

  String value(int p) {
    demandPlace(p);
    return now.shown[p].shown();
  }

  String text(int p) {
    demandPlace(p);
    return state.cells[p] == null ? "" : state.cells[p].text();
  }

  TreeSet<Integer> having(List<TreeSet<Integer>> sets, int p) {
    TreeSet<Integer> r = new TreeSet<>();
    for (int q = 0; q < 160; q++) {
      if (sets.get(q).contains(p)) {
        r.add(q);
      }
    }
    return r;
  }

  int ofPlace(int p, int what) {
    demandPlace(p);
    demand(what >= 0 && what <= 10);
    C c = state.cells[p];
    boolean isCell = c != null;
    switch (what) {
      case 0:
        return now.shown[p].kind;
      case 1:
        return !isCell ? 0 : c.constant != null ? 1 : c.isList() ? 3 : 2;
      case 2:
        return now.level[p];
      case 3:
        return now.onRing(p) ? 1 : 0;
      case 4:
        return now.needs.get(p).size();
      case 5:
        return isCell ? having(now.needs, p).size() : 0;
      case 6:
        return isCell ? having(now.leans, p).size() : 0;
      case 7:
        return state.locked[p] ? 1 : 0;
      case 8:
        return isBad(p) ? 1 : 0;
      case 9:
        return reckoned.contains(p) ? 1 : 0;
      default:
        return now.spans[p];
    }
  }

  String needs(int p, boolean isBack) {
    demandPlace(p);
    return told(isBack ? having(now.needs, p) : now.needs.get(p));
  }

  String ring(int p) {
    demandPlace(p);
    TreeSet<Integer> r = having(now.leans, p);
    r.retainAll(now.leans.get(p));
    return told(r);
  }

  int source(int p) {
    demandPlace(p);
    return now.source[p];
  }

  String reason(int place) {
    demandPlace(place);
    int own = now.source[place];
    if (own == -1) {
      return "";
    }
    TreeSet<Integer> left = new TreeSet<>(now.leans.get(own));
    left.add(own);
    for (boolean more = true; more;) {
      more = false;
      for (int p : new ArrayList<>(left)) {
        if (state.cells[p].isList()) {
          int q = p + 8;
          while (q < 160 && state.cells[q] == null) {
            q += 8;
          }
          if (q < 160) {
            more |= left.add(q);
          }
        }
      }
    }
    for (boolean more = true; more;) {
      more = false;
      for (int p : left.descendingSet().toArray(new Integer[0])) {
        State s = new State();
        s.names = state.names;
        for (int q : left) {
          s.cells[q] = q == p ? null : state.cells[q];
        }
        if (new Shows(s).shown[place].alike(now.shown[place])) {
          left.remove(p);
          more = true;
        }
      }
    }
    return told(left);
  }

  String whatIf(int in, int out, int from, int step, int many) {
    demandPlace(in);
    demandPlace(out);
    demand(from >= -999 && from <= 999 && step >= -999 && step <= 999 && many >= 1 && many <= 6);
    StringBuilder b = new StringBuilder();
    for (int i = 0; i < many; i++) {
      b.append(i > 0 ? " " : "").append(tried(in, out, from + i * step).shown());
    }
    return b.toString();
  }

  String reckoned() {
    return told(reckoned);
  }

  String bad() {
    TreeSet<Integer> r = new TreeSet<>();
    for (int p = 0; p < 160; p++) {
      if (isBad(p)) {
        r.add(p);
      }
    }
    return told(r);
  }

  String named(int name) {
    demand(name >= 0 && name <= 5);
    return state.names[name] == null ? "" : state.names[name];
  }

  String differs(int version) {
    demand(version >= 0 && version <= 2);
    return told(differing(version));
  }

  String all() {
    StringBuilder b = new StringBuilder();
    for (int p = 0; p < 160; p++) {
      if (state.cells[p] != null) {
        b.append(b.length() > 0 ? ";" : "").append(shown(p)).append(":").append(state.cells[p].text());
      }
    }
    return b.toString();
  }

  int house(int what) {
    demand(what >= 0 && what <= 11);
    int k = 0;
    int level = -1;
    for (int p = 0; p < 160; p++) {
      C c = state.cells[p];
      boolean is = what == 0 && c != null || what == 1 && c != null && c.formula != null
          || what == 2 && now.shown[p].isFault() || what == 3 && now.onRing(p)
          || what == 6 && state.locked[p] || what == 7 && isBad(p);
      k += is ? 1 : 0;
      if (c != null) {
        level = Math.max(level, now.level[p]);
      }
    }
    for (String n : state.names) {
      k += what == 5 && n != null ? 1 : 0;
    }
    return what == 4 ? level : what == 8 ? past.size() : what == 9 ? future.size()
        : what == 10 ? ever : what == 11 ? knocks : k;
  }

  int knock() {
    return ++knocks;
  }

  boolean isSound() {
    return true;
  }

  long digest() {
    long d = 5800;
    for (int i = 0; i <= 11; i++) {
      d = d * 31 + house(i);
    }
    for (int p = 0; p < 160; p++) {
      if (state.cells[p] != null || now.shown[p].kind != 0) {
        d = d * 31 + p;
        d = d * 31 + value(p).length();
        d = d * 31 + text(p).length();
        for (int i = 0; state.cells[p] != null && i <= 10; i++) {
          d = d * 31 + ofPlace(p, i);
        }
      }
    }
    for (int i = 0; i < 6; i++) {
      d = d * 31 + named(i).length();
    }
    for (int i = 0; i < 3; i++) {
      d = d * 31 + differs(i).length();
    }
    d = d * 31 + input().length();
    d = d * 31 + reckoned().length();
    d = d * 31 + bad().length();
    d = d * 31 + fault();
    return d * 31 + 1;
  }
}
