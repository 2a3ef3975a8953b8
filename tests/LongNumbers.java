import java.util.Random;

/** Fractions that grow up to 90 binary digits and beyond, and sums of many of them, held against the model. */
public final class LongNumbers {
  private static int longs = 0;
  private static int nearly = 0;

  public static void main(String[] args) {
    int many = args.length > 0 ? Integer.parseInt(args[0]) : 300;
    int wrong = 0;
    for (int seed = 1; seed <= many; seed++) {
      wrong += wrongIn(seed);
    }
    wrong += wrongInGoingOn();
    if (longs < many || nearly < many) {
      System.out.println("too few long numbers came: " + longs + ", " + nearly);
      wrong++;
    }
    if (wrong > 0) {
      System.exit(1);
    }
  }

  private static String cell(int place) {
    return Model.shown(place);
  }

  private static int wrongIn(int seed) {
    Random random = new Random(seed);
    Cellweave x = new Cellweave();
    Model m = new Model();
    int wrong = 0;
    for (int p = 0; p < 60; p++) {
      String text = p < 12 ? number(random) : formula(random, p);
      put(x, m, p, text);
      String due = m.value(p);
      longs += due.equals("#long") ? 1 : 0;
      nearly += due.length() > 22 ? 1 : 0;
      if (!x.value(p).equals(due)) {
        System.out.println("seed " + seed + ": " + text + " shows " + x.value(p) + ", due is " + due
            + " in " + x.all());
        wrong++;
        return wrong;
      }
    }
    if (x.digest() != m.digest()) {
      System.out.println("seed " + seed + ": digests differ");
      wrong++;
    }
    return wrong;
  }

  /** Constants with ever longer bottoms, each gone on with from the one before, till that is too long. */
  private static int wrongInGoingOn() {
    Cellweave x = new Cellweave();
    Model m = new Model();
    int[] primes = {991, 983, 977, 971, 967, 953, 947, 941, 937, 929};
    put(x, m, 0, "1/997");
    int refused = 0;
    for (int i = 0; i < primes.length; i++) {
      int first = i % 8 + i / 8 * 40;
      put(x, m, first + 8, "1/" + primes[i]);
      String last = m.goOn(first, 2);
      String got = x.goOn(first, 2);
      refused += last.equals("-9") ? 1 : 0;
      int next = (i + 1) % 8 + (i + 1) / 8 * 40;
      if (!got.equals(last) || x.copy(first + 16, next) != m.copy(first + 16, next) || x.digest() != m.digest()) {
        System.out.println("going on from " + first + " answers " + got + ", due is " + last);
        return 1;
      }
    }
    if (refused == 0) {
      System.out.println("no number was too long to go on with");
      return 1;
    }
    return 0;
  }

  private static void put(Cellweave x, Model m, int place, String text) {
    for (int i = 0; i < text.length(); i++) {
      x.sign(Model.SIGNS.indexOf(text.charAt(i)));
      m.sign(Model.SIGNS.indexOf(text.charAt(i)));
    }
    x.put(place);
    m.put(place);
  }

  private static String number(Random random) {
    if (random.nextInt(3) == 0) {
      return "" + (random.nextInt(4000) - 2000);
    }
    return (random.nextInt(1999998) - 999999) + "/" + (1 + random.nextInt(999));
  }

  private static String formula(Random random, int p) {
    String a = cell(random.nextInt(p));
    String b = cell(random.nextInt(p));
    String c = cell(random.nextInt(p));
    switch (random.nextInt(8)) {
      case 0:
        return "=" + a + "*" + b;
      case 1:
        return "=" + a + "/" + b;
      case 2:
        return "=" + a + "+" + b + "*" + c;
      case 3:
        return "=" + a + "-" + b + "/" + c;
      case 4: {
        int row = random.nextInt(p / 8 + 1);
        return "=S(a" + (1 + random.nextInt(row + 1)) + ":" + cell(Math.min(p - 1, row * 8 + random.nextInt(8)))
            + ")";
      }
      case 5:
        return "=" + "LM".charAt(random.nextInt(2)) + "(a1:h" + (p / 8 > 0 ? p / 8 : 1) + ")";
      case 6:
        return "=I(N(" + a + ")," + b + "+1/7," + a + ")";
      default:
        return "=I(N(" + a + ")," + b + "," + a + "-" + a + "/" + (2 + random.nextInt(30)) + ")";
    }
  }
}
