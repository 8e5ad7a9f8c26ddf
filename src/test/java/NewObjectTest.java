/** Promise 1: the order of a new object. */
public final class NewObjectTest {
  public static void main(String[] args) {
    order(0, 0);
    order(1, 1);
    order(2, 2);
    order(-1, 0);
    order(Integer.MIN_VALUE, 0);
    order(3, 2);
    order(7, 2);
    order(Integer.MAX_VALUE, 2);
    isNew(0);
    isNew(1);
    isNew(2);
    apart();
    Probe.end();
  }

  /** Each order has a text that only it reads. */
  private static void order(int given, int meant) {
    String call = "new VersionOrders(" + given + ")";
    Probe.due(call + " 1.2.3-a_", new Probe(given).read("1.2.3-a") >= 0, meant != 2);
    Probe.due(call + " ^1", new Probe(given).range("^1") >= 0, meant == 0);
    Probe.due(call + " 1:1", new Probe(given).read("1:1") >= 0, meant == 1);
    Probe.due(call + " 2024.02.29.7", new Probe(given).read("2024.02.29.7") >= 0, meant != 0);
    Probe.due(call + " =2024.02.29", new Probe(given).range("=2024.02.29") >= 0, meant != 0);
    Probe.due(call + " a date's parts", new Probe(given).read("2024.02.30"), meant == 1 ? 0 : meant == 0 ? -7 : -9);
  }

  private static void isNew(int order) {
    Probe probe = new Probe(order);
    Probe.due("compare of none", probe.orders.compare(0, 0), -1000);
    Probe.due("part of none", probe.part(0, 0), "-1000");
    Probe.due("in of none", probe.orders.in(0, 0), false);
    Probe.due("both of none", probe.orders.both(0, 0), -1000);
    Probe.due("not of none", probe.orders.not(0), -1000);
    Probe.due("empty of none", probe.orders.empty(0), false);
    Probe.due("next of none", probe.orders.next(0, 0), -1000);
    Probe.due("print of none", probe.orders.print(0), -1000);
    Probe.due("at of nothing", probe.orders.at(0), -1);
    Probe.due("read of no signs", probe.orders.read(), -1);
    Probe.due("range of no signs", probe.orders.range(), -1);
  }

  private static void apart() {
    Probe one = new Probe(0);
    Probe other = new Probe(0);
    one.signs("1.2");
    other.signs("9.9.9");
    Probe.due("another object's signs", one.signs(".3").orders.read(), 0);
    Probe.due("another object's versions", other.orders.compare(0, 0), -1000);
  }
}
