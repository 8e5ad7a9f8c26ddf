/** Promise 9: what a set's spans aren't. */
public final class NotTest {
  public static void main(String[] args) {
    Ask.not(0, "*", "!");
    Ask.not(0, "!", "*");
    Ask.not(0, "1.2.3", "<1.2.3 || >1.2.3");
    Ask.not(0, "<1.2.3", ">=1.2.3");
    Ask.not(0, "<=1.2.3", ">1.2.3");
    Ask.not(0, ">1.2.3", "<=1.2.3");
    Ask.not(0, ">=1.2.3", "<1.2.3");
    Ask.not(0, "<1.2.3 || >1.2.3", "=1.2.3");
    Ask.not(0, "^1.2 || 3.x", "<1.2.0 || >=2.0.0-0 <3.0.0 || >=4.0.0-0");
    Ask.not(0, "<1.0.0 || >=2.0.0", ">=1.0.0 <2.0.0");
    Ask.not(0, "<=1.0.0 || >2.0.0 <3.0.0 || >=4.0.0", ">1.0.0 <=2.0.0 || >=3.0.0 <4.0.0");
    Ask.not(0, ">0.0.0-0", "<=0.0.0-0");
    Ask.not(0, ">=0.0.0-0", "<0.0.0-0");
    Ask.not(1, "0:1.0 || 2.00", "<0:1.0 || >0:1.0 <2.00 || >2.00");
    Ask.not(2, "2024.01.01.0 - 2024.12.31", "<2024.01.01.0 || >2024.12.31");
    twice();
    noneSuch();
    mostSpans();
    mostSets();
    Probe.end();
  }

  private static void twice() {
    for (String range : new String[] {"*", "!", "1 || 3", "<1.0.0 || >1.0.0", "1.0.0 || 2.0.0", ">1.2.3-a <=2.0.0"}) {
      Probe probe = new Probe(0);
      probe.range(range);
      probe.orders.not(0);
      probe.orders.not(1);
      Probe.due("not not " + range, probe.printed(2), probe.printed(0));
    }
  }

  private static void noneSuch() {
    Probe probe = new Probe(0);
    probe.range("*");
    for (int none : new int[] {1, -1, 200, Integer.MAX_VALUE, Integer.MIN_VALUE}) {
      Probe.due("not(" + none + ")", probe.orders.not(none), -1000);
    }
    Probe.due("none of them made a set", probe.orders.not(0), 1);
  }

  /** 40 spans with gaps before, between and behind them leave 41. */
  private static void mostSpans() {
    Probe probe = new Probe(1);
    probe.range(Ask.points(0, 39));
    probe.range(Ask.points(0, 40));
    Probe.due("40 spans", probe.orders.not(0), 2);
    Probe.due("41 spans", probe.orders.not(1), -1000);
    Probe.due("the next set", probe.orders.not(2), 3);
  }

  private static void mostSets() {
    Probe probe = new Probe(2);
    probe.range("!");
    for (int i = 1; i < 200; i++) {
      Probe.due("set " + i, probe.orders.not(i - 1), i);
    }
    Probe.due("set 200", probe.orders.not(0), -1000);
    Probe.due("print(200)", probe.orders.print(200), -1000);
    Probe.due("set 199", probe.printed(199), "*");
  }
}
