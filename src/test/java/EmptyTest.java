/** Promise 10: whether a set has no span. */
public final class EmptyTest {
  public static void main(String[] args) {
    empty(0, "!", true);
    empty(0, "*", false);
    empty(0, "1.2.3", false);
    empty(0, ">1.2.3 <1.2.3", true);
    empty(0, ">1.2.3 <=1.2.3", true);
    empty(0, ">=1.2.3 <1.2.3", true);
    empty(0, ">=1.2.3 <=1.2.3", false);
    empty(0, "2 - 1", true);
    empty(0, "1 2 || 3 4", true);
    empty(0, "1 2 || 3 4 || 5", false);
    // A span is empty by its ends, not by which versions there could be between them.
    empty(0, "<0", false);
    empty(1, ">1.0 <1.00", true);
    empty(1, ">=1.0 <=0:1.0-0", false);
    empty(2, ">2024.01.01 <2024.01.01.1", false);
    empty(2, ">2024.01.01 <2024.01.01.0", true);
    made();
    noneSuch();
    Probe.end();
  }

  private static void empty(int order, String range, boolean want) {
    Probe probe = new Probe(order);
    Probe.due("range " + range, probe.range(range), 0);
    Probe.due("empty " + range, probe.orders.empty(0), want);
  }

  private static void made() {
    Probe probe = new Probe(0);
    probe.range("1 || 3");
    probe.orders.not(0);
    Probe.due("empty of a not", probe.orders.empty(1), false);
    probe.orders.both(0, 1);
    Probe.due("empty of a both", probe.orders.empty(2), true);
    probe.orders.not(2);
    Probe.due("empty of all", probe.orders.empty(3), false);
  }

  private static void noneSuch() {
    Probe probe = new Probe(0);
    probe.range("!");
    for (int none : new int[] {1, -1, 200, Integer.MAX_VALUE, Integer.MIN_VALUE}) {
      Probe.due("empty(" + none + ")", probe.orders.empty(none), false);
    }
  }
}
