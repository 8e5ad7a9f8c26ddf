/** Promise 7: whether a version is in a set. */
public final class InTest {
  public static void main(String[] args) {
    ends();
    marks();
    joinedMarks();
    packages();
    dates();
    noneSuch();
    Probe.end();
  }

  private static void ends() {
    Ask.in(0, ">1.2.3", "1.2.3", false);
    Ask.in(0, ">1.2.3", "1.2.4", true);
    Ask.in(0, ">=1.2.3", "1.2.3", true);
    Ask.in(0, ">=1.2.3", "1.2.2", false);
    Ask.in(0, "<1.2.3", "1.2.3", false);
    Ask.in(0, "<1.2.3", "1.2.2", true);
    Ask.in(0, "<=1.2.3", "1.2.3", true);
    Ask.in(0, "<=1.2.3", "1.2.4", false);
    Ask.in(0, "1.2.3", "1.2.3+b", true);
    Ask.in(0, "*", "0.0.0", true);
    Ask.in(0, "!", "0.0.0", false);
    Ask.in(0, "1 || 3 || 5", "3.9.9", true);
    Ask.in(0, "1 || 3 || 5", "5.0.0", true);
    Ask.in(0, "1 || 3 || 5", "2.0.0", false);
    Ask.in(0, "1 || 3 || 5", "4.0.0", false);
    Ask.in(0, "^1.2.3", "1.99.0", true);
    Ask.in(0, "^1.2.3", "2.0.0", false);
  }

  private static void marks() {
    Ask.in(0, "*", "1.2.3-a", false);
    Ask.in(0, ">=1.2.3", "1.2.4-a", false);
    Ask.in(0, ">=1.2.3-a", "1.2.3-b", true);
    Ask.in(0, ">=1.2.3-b", "1.2.3-a", false);
    Ask.in(0, ">1.2.3-b", "1.2.3-b", false);
    Ask.in(0, ">=1.2.3-b", "1.2.3-b+c", true);
    Ask.in(0, ">=1.2.3-a", "1.2.4-a", false);
    Ask.in(0, ">=1.2.3-a", "1.3.3-b", false);
    Ask.in(0, ">=1.2.3-a", "2.2.3-b", false);
    Ask.in(0, ">=1.2.3-a", "1.2.4", true);
    Ask.in(0, "<1.2.3", "1.2.3-a", false);
    Ask.in(0, "<=1.2.3-b", "1.2.3-a", true);
    Ask.in(0, "<1.2.3-b", "1.2.3-a", true);
    Ask.in(0, "<1.2.3-b", "1.2.2-a", false);
    Ask.in(0, ">=1.0.0 <1.2.3-b", "1.2.3-a", true);
    Ask.in(0, ">=1.0.0 <1.2.3-b", "1.0.0-a", false);
    Ask.in(0, ">=1.0.0-0 <1.2.3", "1.0.0-a", true);
    Ask.in(0, ">=1.0.0-0 <1.2.3", "1.2.3-a", false);
    Ask.in(0, "<2", "2.0.0-0", false);
    Ask.in(0, "^1.2.3", "2.0.0-0", false);
    Ask.in(0, "^1.2.3-a", "1.2.3-b", true);
    Ask.in(0, "^1.2.3-a", "1.2.4-b", false);
    Ask.in(0, "=1.2.3-a", "1.2.3-a", true);
    Ask.in(0, "1.2.3", "1.2.3-a", false);
  }

  /** It is the span's own ends that count, not those of the texts that it was made of. */
  private static void joinedMarks() {
    Ask.in(0, ">=1.2.3-a || >=1.0.0", "1.2.3-b", false);
    Ask.in(0, ">=1.2.3-a <1.5.0 || >=1.7.0", "1.2.3-b", true);
    Ask.in(0, "<1.2.3-a || >=1.2.3-a", "1.2.3-b", false);
    Ask.in(0, "1.0.0 || >=1.2.3-a <2.0.0", "1.2.3-b", true);
    Ask.in(0, ">=1.2.3-a <1.2.4 || 1.9.0-b", "1.9.0-a", false);
    Probe probe = new Probe(0);
    probe.range("<2");
    probe.read("2.0.0-a");
    probe.read("2.0.1-a");
    probe.orders.not(0);
    Probe.due("2.0.0-a in what isn't below 2", probe.orders.in(1, 0), true);
    Probe.due("2.0.1-a in what isn't below 2", probe.orders.in(1, 1), false);
  }

  private static void packages() {
    Ask.in(1, ">=1.0~", "1.0~", true);
    Ask.in(1, ">=1.0~", "1.0~rc1", true);
    Ask.in(1, ">=1.0", "1.0~rc1", false);
    Ask.in(1, "=1.0", "0:1.00-0", true);
    Ask.in(1, "<1:0", "999", true);
    Ask.in(1, "<1:0", "1:0", false);
    Ask.in(1, "1.0 - 2.0", "2.0-0", true);
    Ask.in(1, "1.0 - 2.0", "2.0-1", false);
  }

  private static void dates() {
    Ask.in(2, "2024.01.01 - 2024.12.31", "2024.12.31", true);
    Ask.in(2, "2024.01.01 - 2024.12.31", "2024.12.31.1", false);
    Ask.in(2, "=2024.01.01", "2024.01.01.0", true);
    Ask.in(2, ">2024.01.01", "2024.01.01.1", true);
    Ask.in(2, "*", "0000.01.01", true);
  }

  private static void noneSuch() {
    Probe probe = new Probe(0);
    probe.range("*");
    probe.read("1.2.3");
    Probe.due("in(0, 0)", probe.orders.in(0, 0), true);
    for (int none : new int[] {1, -1, 200, 300, Integer.MAX_VALUE, Integer.MIN_VALUE}) {
      Probe.due("in(0, " + none + ")", probe.orders.in(0, none), false);
      Probe.due("in(" + none + ", 0)", probe.orders.in(none, 0), false);
    }
  }
}
