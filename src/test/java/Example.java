/** The example of README.md, which shows this file and what it prints, word for word. */
public final class Example {
  public static void main(String[] args) {
    NineValues x = new NineValues();

    // Numbers: 200 and -56 are the same 8 elements; signed, they are the same number, and its square has 16.
    x.number(0, 8, 200);
    x.number(1, 8, -56);
    System.out.println("compared: " + x.compare(true, 0, 1));
    x.operate(9, true, 0, 1, 2);
    System.out.println("product: " + x.numberOf(2, true) + " in " + x.length(2) + " elements");

    // Wires: of four that are not driven (Z), the rightmost becomes weakly one (H).
    x.fill(3, 4, 4);
    x.put(3, 0, 7);
    int wire = x.all(3, 3);
    System.out.println("driven together: " + wire + ", an edge from ZERO to it: " + x.edge(2, wire));

    // A word with a Z has no number; stripped by kind 3, it has one.
    try {
      x.numberOf(3, false);
    } catch (IllegalStateException e) {
      x.change(3, 3, 4);
      System.out.println("not clear; stripped: " + x.numberOf(4, false));
    }
  }
}
