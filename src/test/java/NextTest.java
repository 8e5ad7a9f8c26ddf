/** Promise 11: the least version in a set that is greater than a version. */
public final class NextTest {
  public static void main(String[] args) {
    semantic();
    likeOnes();
    marks();
    dates();
    noneSuch();
    Probe.end();
  }

  private static Probe with(int order, String... versions) {
    Probe probe = new Probe(order);
    for (String version : versions) {
      probe.read(version);
    }
    return probe;
  }

  private static void next(Probe probe, String range, int version, int want) {
    int set = probe.range(range);
    Probe.due("next of version " + version + " in " + range, probe.orders.next(set, version), want);
  }

  private static void semantic() {
    Probe probe = with(0, "3.0.0", "1.0.0", "2.0.0", "1.5.0", "0.1.0");
    next(probe, "*", 4, 1);
    next(probe, "*", 1, 3);
    next(probe, "*", 3, 2);
    next(probe, "*", 2, 0);
    next(probe, "*", 0, -1);
    next(probe, "!", 4, -1);
    next(probe, ">1.0.0", 4, 3);
    next(probe, "<=1.0.0", 4, 1);
    next(probe, "<=1.0.0", 1, -1);
    next(probe, "2 || 3", 4, 2);
    next(probe, "3", 4, 0);
    next(probe, "=0.1.0", 4, -1);
  }

  /** The first number of like ones; and one that is like the version isn't greater. */
  private static void likeOnes() {
    Probe probe = with(1, "1.0", "2.00", "2.0", "0:1.0", "2", "2.0-0");
    next(probe, "*", 0, 4);
    next(probe, "*", 3, 4);
    next(probe, "*", 4, 1);
    next(probe, "=2.0", 0, 1);
    next(probe, "*", 2, -1);
    Probe built = with(0, "1.0.0", "1.0.0+a", "1.0.1+b", "1.0.1");
    next(built, "*", 0, 2);
    next(built, "*", 1, 2);
    next(built, "*", 3, -1);
  }

  private static void marks() {
    Probe probe = with(0, "1.0.0", "1.2.3-a", "1.2.3-b", "1.2.3", "2.0.0-a");
    next(probe, "*", 0, 3);
    next(probe, ">=1.2.3-a", 0, 1);
    next(probe, ">1.2.3-a", 0, 2);
    next(probe, ">=1.2.3-a", 2, 3);
    next(probe, ">=1.2.3-a", 3, -1);
    // The version itself need not be in the set.
    next(probe, ">=1.2.3", 1, 3);
  }

  private static void dates() {
    Probe probe = with(2, "2024.12.31", "2024.01.01.10", "2024.01.01.9", "2023.01.01");
    next(probe, "*", 3, 2);
    next(probe, "*", 2, 1);
    next(probe, ">=2024.02.01", 3, 0);
  }

  private static void noneSuch() {
    Probe probe = with(0, "1.0.0", "2.0.0");
    probe.range("*");
    Probe.due("next(0, 0)", probe.orders.next(0, 0), 1);
    for (int none : new int[] {2, -1, 200, 300, Integer.MAX_VALUE, Integer.MIN_VALUE}) {
      Probe.due("next(0, " + none + ")", probe.orders.next(0, none), -1000);
      Probe.due("next(" + none + ", 0)", probe.orders.next(none, 0), -1000);
    }
  }
}
