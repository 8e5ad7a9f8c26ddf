/** Promise 12: sets printed. */
public final class PrintTest {
  public static void main(String[] args) {
    printed(0, "*", "*");
    printed(0, "!", "!");
    printed(0, "1.2.3-a.1+b.c", "=1.2.3-a.1");
    printed(0, "<1.2.3", "<1.2.3");
    printed(0, "<=1.2.3+x", "<=1.2.3");
    printed(0, ">1.2.3-0", ">1.2.3-0");
    printed(0, ">=1.2.3", ">=1.2.3");
    printed(0, ">=1.2.3 <2.0.0", ">=1.2.3 <2.0.0");
    printed(0, ">1.2.3 <=2.0.0", ">1.2.3 <=2.0.0");
    printed(0, "<1.0.0 || 2.0.0 || >3.0.0 <4.0.0 || >=5.0.0", "<1.0.0 || =2.0.0 || >3.0.0 <4.0.0 || >=5.0.0");
    printed(1, "1.0+b", "=1.0+b");
    printed(1, "0:1.0", "=0:1.0");
    printed(1, "1:1.0-2 || 007", "=007 || =1:1.0-2");
    printed(2, "2024.01.01", "=2024.01.01");
    printed(2, "2024.01.01.0", "=2024.01.01.0");
    printed(2, "0001.01.01.7", "=0001.01.01.7");
    longText();
    noneSuch();
    Probe.end();
  }

  private static void printed(int order, String range, String want) {
    Probe probe = new Probe(order);
    Probe.due("range " + range, probe.range(range), 0);
    Probe.due("how many signs " + range + " prints", probe.orders.print(0), want.length());
    Probe.due("print of " + range, probe.printed(0), want);
    Probe.due("print of " + range + ", read again", probe.range(want), 1);
    Probe.due("print of " + range + ", printed again", probe.printed(1), want);
  }

  /** More than 200 signs. */
  private static void longText() {
    Probe probe = new Probe(0);
    StringBuilder range = new StringBuilder("1");
    StringBuilder want = new StringBuilder(">=1.0.0 <2.0.0-0");
    for (int i = 3; i <= 79; i += 2) {
      range.append("||").append(i);
      want.append(" || >=").append(i).append(".0.0 <").append(i + 1).append(".0.0-0");
    }
    Probe.due("a set of 40 spans", probe.range(range.toString()), 0);
    Probe.due("how many signs", probe.orders.print(0), want.length());
    for (int i = 0; i < 150; i++) {
      int place = i * 5;
      Probe.due("sign " + place, probe.orders.at(place), place < want.length() ? (int) want.charAt(place) : -1);
    }
  }

  private static void noneSuch() {
    Probe probe = new Probe(0);
    probe.range("1.2.3");
    probe.orders.print(0);
    for (int none : new int[] {1, -1, 200, Integer.MAX_VALUE, Integer.MIN_VALUE}) {
      Probe.due("print(" + none + ")", probe.orders.print(none), -1000);
      Probe.due("what was printed before stays", probe.orders.at(0), (int) '=');
      Probe.due("to its last sign", probe.orders.at(5), (int) '3');
    }
  }
}
