public final class Smoke {
  public static void main(String[] args) {
    if (new Cellweave().house(0) != 0) { System.out.println("a new sheet has cells"); System.exit(1); }
  }
}
