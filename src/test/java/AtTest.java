/** Promise 13: the signs of what was printed. */
public final class AtTest {
  public static void main(String[] args) {
    Probe probe = new Probe(0);
    Probe.due("at(0) before anything is printed", probe.orders.at(0), -1);
    probe.range(">=1.2.3 <2.0.0");
    Probe.due("at(0) of a range that isn't printed", probe.orders.at(0), -1);
    Probe.due("print(0)", probe.orders.print(0), 14);
    signs(probe, ">=1.2.3 <2.0.0");
    probe.range("*");
    probe.read("4.5.6");
    probe.orders.not(0);
    probe.orders.both(0, 1);
    probe.orders.next(0, 0);
    signs(probe, ">=1.2.3 <2.0.0");
    probe.orders.print(1);
    signs(probe, "*");
    probe.orders.print(9);
    signs(probe, "*");
    Probe.end();
  }

  private static void signs(Probe probe, String want) {
    for (int i = 0; i < want.length(); i++) {
      Probe.due("at(" + i + ")", probe.orders.at(i), (int) want.charAt(i));
    }
    for (int none : new int[] {want.length(), want.length() + 1, 200, -1, Integer.MAX_VALUE, Integer.MIN_VALUE}) {
      Probe.due("at(" + none + ")", probe.orders.at(none), -1);
    }
  }
}
