/** The calls that README.md shows answer what stands beside them there. */
public final class Example extends Bench {
  public static void main(String[] args) {
    edge("README.md");
    Cellweave x = new Cellweave();
    due("sign", x.sign(5), 1);
    due("put", x.put(0), -1);
    x.sign(25);
    x.place(0, 0);
    x.sign(23);
    due("fault", x.fault(), 4);
    x.sign(2);
    due("put", x.put(1), -1);
    due("value", x.value(1), "10");
    due("text", x.text(1), "=a1*2");
    due("needs", x.needs(1, false), "0");
    due("reason", x.reason(1), "0 1");
    due("whatIf", x.whatIf(0, 1, 1, 1, 3), "2 4 6");
    due("goal", x.goal(0, 1, -10, 10, 14), 7);
    due("value", x.value(1), "14");
    due("reckoned", x.reckoned(), "1");
    due("undo", x.undo(), 2);
    due("value", x.value(1), "10");
    due("takeOut", x.takeOut(false, 0), 2);
    due("all", x.all(), "");
    end();
  }
}
