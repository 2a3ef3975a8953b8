import java.lang.reflect.Constructor;
import java.lang.reflect.Field;
import java.lang.reflect.Method;
import java.math.BigInteger;
import java.util.Random;

/**
 * Long division and common divisors inside Cellweave, held against BigInteger: some of their steps are
 * so seldom wanted that no run of calls comes upon them by chance.
 */
public final class LongDivision {
  private static final int[] EDGES = {
    0, 1, 2, 3, 1 << 28, (1 << 29) - 1, 1 << 29, (1 << 29) + 1, (1 << 30) - 2, (1 << 30) - 1
  };

  private static Constructor<?> made;
  private static Field limbs;
  private static Field size;
  private static final Random RANDOM = new Random(1);

  public static void main(String[] args) throws ReflectiveOperationException {
    Class<?> natural = Class.forName("Cellweave$Natural");
    Class<?> arithmetic = Class.forName("Cellweave$Arithmetic");
    made = natural.getDeclaredConstructor();
    made.setAccessible(true);
    limbs = field(natural, "limb");
    size = field(natural, "size");
    Constructor<?> maker = arithmetic.getDeclaredConstructor();
    maker.setAccessible(true);
    Object on = maker.newInstance();
    Method divide = arithmetic.getDeclaredMethod("divide", natural, natural, natural);
    Method common = arithmetic.getDeclaredMethod("setCommon", natural, natural, natural);
    divide.setAccessible(true);
    common.setAccessible(true);
    Field rest = field(arithmetic, "rest");
    for (int turn = 0; turn < 150000; turn++) {
      BigInteger number = number(RANDOM.nextInt(10) == 0 ? 480 : 6);
      BigInteger by = number(RANDOM.nextInt(10) == 0 ? 8 : 3);
      if (by.signum() != 0) {
        Object quotient = made.newInstance();
        divide.invoke(on, natural(number), natural(by), quotient);
        demand(big(quotient).equals(number.divide(by)), number + " / " + by);
        demand(big(rest.get(on)).equals(number.mod(by)), number + " mod " + by);
      }
      BigInteger shared = RANDOM.nextBoolean() ? BigInteger.ONE : number(1);
      BigInteger one = number(2).multiply(shared);
      BigInteger other = number(2).multiply(shared);
      if (one.signum() != 0 || other.signum() != 0) {
        Object into = made.newInstance();
        common.invoke(on, natural(one), natural(other), into);
        demand(big(into).equals(one.gcd(other)), "divisor of " + one + " and " + other);
      }
    }
  }

  private static void demand(boolean is, String what) {
    if (!is) {
      System.out.println("wrong: " + what);
      System.exit(1);
    }
  }

  private static Field field(Class<?> in, String name) throws ReflectiveOperationException {
    Field field = in.getDeclaredField(name);
    field.setAccessible(true);
    return field;
  }

  private static BigInteger number(int most) {
    BigInteger number = BigInteger.ZERO;
    int mode = RANDOM.nextInt(3);
    for (int i = 1 + RANDOM.nextInt(most); i > 0; i--) {
      boolean isEdge = mode == 0 || mode == 1 && RANDOM.nextBoolean();
      int limb = isEdge ? EDGES[RANDOM.nextInt(EDGES.length)] : RANDOM.nextInt(1 << 30);
      number = number.shiftLeft(30).add(BigInteger.valueOf(limb));
    }
    return number;
  }

  private static Object natural(BigInteger number) throws ReflectiveOperationException {
    Object natural = made.newInstance();
    int many = 0;
    for (BigInteger left = number; left.signum() > 0; left = left.shiftRight(30)) {
      ((int[]) limbs.get(natural))[many] = left.intValue() & (1 << 30) - 1;
      many++;
    }
    size.setInt(natural, many);
    return natural;
  }

  private static BigInteger big(Object natural) throws ReflectiveOperationException {
    BigInteger number = BigInteger.ZERO;
    for (int i = size.getInt(natural) - 1; i >= 0; i--) {
      number = number.shiftLeft(30).add(BigInteger.valueOf(((int[]) limbs.get(natural))[i]));
    }
    demand((number.bitLength() + 29) / 30 == size.getInt(natural), "the size of " + number);
    return number;
  }
}
