import java.lang.reflect.InvocationTargetException;
import java.lang.reflect.Method;
import java.util.ArrayList;
import java.util.HashMap;
import java.util.List;
import java.util.Map;
import java.util.Random;

/** Runs of calls, the same ones for each seed, on Cellweave and on the model; their answers must be the same. */
public final class RandomRuns {
  private static final Map<String, Method> METHODS = new HashMap<>();

  private final Random random;
  private final Cellweave x = new Cellweave();
  private final Model m = new Model();
  private final List<String> log = new ArrayList<>();
  // Most calls keep to so many rows and columns, from these on.
  private final int rows;
  private final int columns;
  private final int firstRow;
  private final int firstColumn;
  // 0 anything, 1 long numbers, 2 lists, 3 a full sheet, 4 undoing and versions.
  private final int mode;
  // Calm runs change few rows, and their formulas need only what stands above, so that few rings come.
  private final boolean isCalm;
  private int target;
  private boolean isRight = true;

  private RandomRuns(long seed) {
    random = new Random(seed);
    mode = (int) (seed % 7 % 5);
    isCalm = seed % 3 != 0;
    rows = random.nextInt(4) == 0 ? 20 : 4 + random.nextInt(8);
    columns = random.nextInt(4) == 0 ? 8 : 2 + random.nextInt(3);
    boolean isAtEnd = seed % 4 == 1;
    firstRow = isAtEnd ? 20 - rows : 0;
    firstColumn = isAtEnd ? 8 - columns : 0;
  }

  public static void main(String[] args) {
    int from = args.length > 0 ? Integer.parseInt(args[0]) : 1;
    int to = args.length > 1 ? Integer.parseInt(args[1]) : 400;
    int wrong = 0;
    for (int seed = from; seed <= to && wrong < 3; seed++) {
      RandomRuns run = new RandomRuns(seed);
      run.go(300);
      if (!run.isRight) {
        wrong++;
        System.out.println("seed " + seed + ":");
        for (String line : run.log.subList(Math.max(0, run.log.size() - 60), run.log.size())) {
          System.out.println("  " + line);
        }
        System.out.println("  sheet: " + run.x.all());
      }
    }
    if (wrong > 0) {
      System.exit(1);
    }
  }

  private void go(int calls) {
    for (int i = 0; i < calls && isRight; i++) {
      anyCall();
      if (i % 10 == 0) {
        sweep();
      }
    }
    sweep();
  }

  private void sweep() {
    for (int p = 0; p < 160 && isRight; p++) {
      same("value", p);
      same("source", p);
      if (m.state.cells[p] != null && random.nextInt(4) == 0) {
        same("text", p);
        same("needs", p, true);
        same("needs", p, false);
        same("ring", p);
      }
    }
    same("digest");
  }

  private static String answer(Object on, String name, Object... args) {
    String key = on.getClass().getName() + name;
    Method method = METHODS.get(key);
    if (method == null) {
      for (Method candidate : on.getClass().getDeclaredMethods()) {
        if (candidate.getName().equals(name) && candidate.getParameterCount() == args.length) {
          method = candidate;
        }
      }
      method.setAccessible(true);
      METHODS.put(key, method);
    }
    try {
      return String.valueOf(method.invoke(on, args));
    } catch (InvocationTargetException e) {
      return "throws." + e.getCause().getClass().getSimpleName();
    } catch (IllegalAccessException e) {
      throw new IllegalStateException(e);
    }
  }

  private String same(String name, Object... args) {
    String got = answer(x, name, args);
    String due = answer(m, name, args);
    StringBuilder line = new StringBuilder(name).append("(");
    for (Object arg : args) {
      line.append(line.charAt(line.length() - 1) == '(' ? "" : ", ").append(arg);
    }
    log.add(line.append(") -> ").append(got).toString());
    if (!got.equals(due)) {
      isRight = false;
      log.add("due was " + due);
    }
    return due;
  }

  private int aPlace() {
    if (random.nextInt(30) == 0) {
      return random.nextInt(170) - 5;
    }
    if (random.nextInt(20) == 0) {
      return random.nextInt(160);
    }
    return (firstRow + random.nextInt(rows)) * 8 + firstColumn + random.nextInt(columns);
  }

  private int line(boolean isColumn) {
    if (random.nextInt(20) == 0) {
      return random.nextInt(24) - 2;
    }
    return isColumn ? firstColumn + random.nextInt(columns) : firstRow + random.nextInt(rows);
  }

  private void type(String text) {
    same("rub", 40);
    for (int i = 0; i < text.length() && i < 40; i++) {
      same("sign", Model.SIGNS.indexOf(text.charAt(i)));
    }
  }

  private String placeText() {
    int p = Math.max(0, Math.min(159, aPlace()));
    if (isCalm && p / 8 >= target / 8 && random.nextInt(25) > 0) {
      int above = target / 8 - firstRow;
      p = p % 8 + 8 * (above < 1 ? Math.min(firstRow + 1, 19) : firstRow + random.nextInt(above));
    }
    String column = "" + (char) ('a' + p % 8);
    return (random.nextInt(6) == 0 ? "$" : "") + column + (random.nextInt(6) == 0 ? "$" : "")
        + (p / 8 + 1);
  }

  private String range() {
    switch (random.nextInt(6)) {
      case 0:
        return placeText();
      case 1:
        return placeText() + "#";
      case 2:
        return "n" + random.nextInt(random.nextInt(4) == 0 ? 6 : 3);
      default:
        return placeText() + ":" + placeText();
    }
  }

  private String expression(int depth) {
    switch (random.nextInt(9)) {
      case 0:
        return total(depth) + "=" + total(depth);
      case 1:
        return total(depth) + "<" + total(depth);
      default:
        return total(depth);
    }
  }

  private String total(int depth) {
    String text = product(depth);
    for (int i = 0; i < 3 && random.nextInt(5) < 2; i++) {
      text += "+-&".charAt(random.nextInt(3)) + product(depth);
    }
    return text;
  }

  private String product(int depth) {
    String text = factor(depth);
    for (int i = 0; i < 3 && random.nextInt(5) == 0; i++) {
      text += "*/".charAt(random.nextInt(2)) + factor(depth);
    }
    return text;
  }

  private String factor(int depth) {
    int kind = random.nextInt(depth > 0 ? 20 : 10);
    switch (kind) {
      case 0:
        return "-" + factor(depth);
      case 1:
        return "" + random.nextInt(random.nextBoolean() ? 10 : 10000);
      case 2:
        return "'" + string(random.nextInt(4)) + "'";
      case 3:
        return random.nextBoolean() ? "T" : "X";
      case 10:
        return "(" + expression(depth - 1) + ")";
      case 11:
      case 12:
        return "S(" + range() + ")";
      case 13:
        return "L(" + range() + ")";
      case 14:
        return "M(" + range() + ")";
      case 15:
        return "C(" + range() + "," + expression(depth - 1) + ")";
      case 16:
      case 17:
        return "I(" + expression(depth - 1) + "," + expression(depth - 1) + ","
            + expression(depth - 1) + ")";
      case 18:
        return "K(" + expression(depth - 1) + "," + range() + "," + range() + ")";
      case 19:
        return "N(" + expression(depth - 1) + ")";
      default:
        return placeText();
    }
  }

  private String string(int length) {
    StringBuilder b = new StringBuilder();
    for (int i = 0; i < length; i++) {
      char c = Model.SIGNS.charAt(random.nextInt(45));
      b.append(c == '\'' ? 'a' : c);
    }
    return b.toString();
  }

  private String longNumber() {
    switch (random.nextInt(5)) {
      case 0:
        return (random.nextBoolean() ? "-" : "") + random.nextInt(1000000) + "/" + (1 + random.nextInt(999));
      case 1:
        return "=" + placeText() + "*" + placeText();
      case 2:
        return "=" + placeText() + "/" + placeText() + "+-*/".charAt(random.nextInt(4)) + placeText();
      case 3:
        return "=S(" + placeText() + ":" + placeText() + ")";
      default:
        return "=" + "LMS".charAt(random.nextInt(3)) + "(" + range() + ")" + "*-+/<=".charAt(random.nextInt(6))
            + placeText();
    }
  }

  private String list() {
    int list = random.nextInt(3);
    return "=" + "OUF".charAt(list) + "(" + range() + (list == 2 ? "," + range() : "") + ")";
  }

  private String content() {
    if (mode == 1 && random.nextInt(5) > 0) {
      return longNumber();
    }
    if (mode == 2 && random.nextInt(3) == 0) {
      return random.nextInt(3) > 0 ? list() : "=" + (random.nextBoolean() ? "1" : "0")
          + "<" + placeText();
    }
    int kind = random.nextInt(20);
    if (kind < 5) {
      return "" + (random.nextInt(20) - 6);
    }
    if (kind < 7) {
      return (random.nextInt(2000000) - 1000000) + "/" + random.nextInt(1000);
    }
    if (kind < 8) {
      return string(1 + random.nextInt(5));
    }
    if (kind < 11) {
      return list();
    }
    String text = "=" + expression(2);
    return text.length() > 40 ? "=" + placeText() : text;
  }

  /** A text with a sign more, less or another one, whose fault is asked for. */
  private void askFault() {
    StringBuilder b = new StringBuilder(content());
    for (int i = random.nextInt(3); i >= 0; i--) {
      int at = random.nextInt(b.length() + 1);
      char c = Model.SIGNS.charAt(random.nextInt(45));
      int kind = random.nextInt(3);
      if (kind == 0) {
        b.insert(at, c);
      } else if (at < b.length() && kind == 1) {
        b.setCharAt(at, c);
      } else if (at < b.length() && b.length() > 1) {
        b.deleteCharAt(at);
      }
    }
    type(b.toString());
    same("fault");
    same("input");
    if (random.nextBoolean()) {
      same("put", aPlace());
    }
  }

  private int aCall() {
    if (mode == 3 && random.nextInt(4) == 0) {
      return 17 + random.nextInt(4);
    }
    if (mode == 4 && random.nextInt(3) == 0) {
      return 31 + random.nextInt(9);
    }
    int call = random.nextInt(48);
    boolean isRough = call >= 15 && call <= 23 || call >= 31 && call <= 32;
    return isCalm && isRough && random.nextInt(6) > 0 ? random.nextInt(14) : call;
  }

  private void anyCall() {
    boolean isColumn = random.nextInt(3) == 0;
    switch (aCall()) {
      case 0: case 1: case 2: case 3: case 4: case 5: case 6: case 7: case 8: case 9:
      case 10: case 11: case 12: case 13:
        target = Math.max(0, Math.min(159, aPlace()));
        type(content());
        same("put", target);
        return;
      case 14:
        askFault();
        return;
      case 15: case 16:
        same("clear", aPlace());
        return;
      case 17: case 18:
        same("copy", aPlace(), aPlace());
        return;
      case 19:
        same("fill", aPlace(), aPlace(), aPlace());
        return;
      case 20:
        same("goOn", aPlace(), random.nextInt(random.nextInt(4) == 0 ? 21 : 8));
        return;
      case 21:
        same("putIn", isColumn, line(isColumn));
        return;
      case 22:
        same("takeOut", isColumn, line(isColumn));
        return;
      case 23:
        same("move", isColumn, line(isColumn), line(isColumn));
        return;
      case 24: {
        int first = line(false);
        same("sort", first, first + random.nextInt(4), line(true));
        return;
      }
      case 25: case 26:
        same("name", random.nextInt(5) == 0 ? random.nextInt(9) - 1 : random.nextInt(3),
            random.nextInt(4) == 0 ? -1 : aPlace(), aPlace());
        return;
      case 27:
        same("lock", aPlace(), random.nextInt(3) == 0);
        return;
      case 28:
        same("check", aPlace(), random.nextInt(20) - 5, random.nextInt(20) - 5);
        return;
      case 29: case 30: {
        int from = random.nextInt(20) - 10;
        same("goal", aPlace(), aPlace(), from, from + random.nextInt(21), random.nextInt(12) - 3);
        return;
      }
      case 31:
        same("back", random.nextInt(4));
        return;
      case 32:
        same("join", random.nextInt(3), random.nextInt(3));
        return;
      case 33:
        same("open");
        return;
      case 34:
        same("close");
        return;
      case 35: case 36:
        same("undo");
        return;
      case 37:
        same("redo");
        return;
      case 38: case 39:
        same("keep", random.nextInt(4) == 0 ? 3 : random.nextInt(3));
        return;
      default:
        anyQuestion();
    }
  }

  private void anyQuestion() {
    switch (random.nextInt(16)) {
      case 0: case 1: case 2: case 3:
        same("reason", aPlace());
        return;
      case 4: case 5:
        same("whatIf", aPlace(), aPlace(), random.nextInt(30) - 10, random.nextInt(9) - 4,
            random.nextInt(8));
        return;
      case 6:
        same("reckoned");
        same("bad");
        return;
      case 7:
        same("named", random.nextInt(8) - 1);
        return;
      case 8:
        same("differs", random.nextInt(4));
        return;
      case 9:
        same("all");
        return;
      case 10:
        same("house", random.nextInt(14) - 1);
        return;
      case 11:
        same("knock");
        same("isSound");
        return;
      case 12:
        same("place", aPlace(), random.nextInt(5));
        return;
      case 13:
        same("sign", random.nextInt(48) - 1);
        return;
      case 14:
        same("rub", random.nextInt(9) - 1);
        return;
      default:
        same("ofPlace", aPlace(), random.nextInt(13) - 1);
    }
  }
}
