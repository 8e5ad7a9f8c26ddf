/** Promise 8: what is in both sets. */
public final class BothTest {
  public static void main(String[] args) {
    Ask.both(0, "^1.2 || 3", "<1.5.0 || >=3.2.0", ">=1.2.0 <1.5.0 || >=3.2.0 <4.0.0-0");
    Ask.both(0, "*", "*", "*");
    Ask.both(0, "*", "1 || 3", ">=1.0.0 <2.0.0-0 || >=3.0.0 <4.0.0-0");
    Ask.both(0, "!", "*", "!");
    Ask.both(0, "*", "!", "!");
    Ask.both(0, "1", "2", "!");
    Ask.both(0, "<=1.0.0", ">=1.0.0", "=1.0.0");
    Ask.both(0, "<1.0.0", ">=1.0.0", "!");
    Ask.both(0, "<=1.0.0", ">1.0.0", "!");
    Ask.both(0, ">1.0.0", ">=1.0.0", ">1.0.0");
    Ask.both(0, "<1.0.0", "<=1.0.0", "<1.0.0");
    Ask.both(0, "<=1.0.0 || >=2.0.0", ">=1.0.0 <=2.0.0", "=1.0.0 || =2.0.0");
    Ask.both(0, ">=1.0.0 <9.0.0", "<=2.0.0 || 3.0.0 || >4.0.0 <5.0.0 || >=8.0.0",
        ">=1.0.0 <=2.0.0 || =3.0.0 || >4.0.0 <5.0.0 || >=8.0.0 <9.0.0");
    Ask.both(1, ">=1.0 <=2.0", ">=1.00 <=2.00", ">=1.0 <=2.0");
    Ask.both(1, ">=1.00 <=2.00", ">=1.0 <=2.0", ">=1.00 <=2.00");
    Ask.both(1, ">=1.0 <=2.0", ">1.00 <2.00", ">1.00 <2.00");
    Ask.both(1, "<=1.0", ">=1.00", "=1.00");
    Ask.both(2, "<2024.01.01 || >2024.02.01", ">2023.01.01 <2024.03.01", ">2023.01.01 <2024.01.01 || >2024.02.01 <2024.03.01");
    itself();
    noneSuch();
    mostSpans();
    mostSets();
    Probe.end();
  }

  private static void itself() {
    Probe probe = new Probe(0);
    probe.range("1 || 3");
    Probe.due("both(0, 0)", probe.orders.both(0, 0), 1);
    Probe.due("both(0, 0) printed", probe.printed(1), probe.printed(0));
  }

  private static void noneSuch() {
    Probe probe = new Probe(0);
    probe.range("*");
    for (int none : new int[] {1, -1, 200, Integer.MAX_VALUE, Integer.MIN_VALUE}) {
      Probe.due("both(0, " + none + ")", probe.orders.both(0, none), -1000);
      Probe.due("both(" + none + ", 0)", probe.orders.both(none, 0), -1000);
    }
    Probe.due("none of them made a set", probe.orders.both(0, 0), 1);
  }

  /** What isn't any of some points has one span more than there are points. */
  private static void mostSpans() {
    Probe probe = new Probe(1);
    probe.range(Ask.points(0, 20));
    probe.range(Ask.points(20, 39));
    probe.range(Ask.points(20, 40));
    probe.orders.not(0);
    probe.orders.not(1);
    probe.orders.not(2);
    Probe.due("40 spans", probe.orders.both(3, 4), 6);
    Probe.due("41 spans", probe.orders.both(3, 5), -1000);
    Probe.due("41 spans, turned about", probe.orders.both(5, 3), -1000);
    Probe.due("the next set", probe.orders.both(0, 0), 7);
  }

  private static void mostSets() {
    Probe probe = new Probe(0);
    probe.range("1");
    for (int i = 1; i < 200; i++) {
      Probe.due("set " + i, probe.orders.both(i - 1, 0), i);
    }
    Probe.due("set 200", probe.orders.both(0, 0), -1000);
    Probe.due("set 199", probe.printed(199), ">=1.0.0 <2.0.0-0");
  }
}
