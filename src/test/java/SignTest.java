/** Promise 2: signs are collected, 200 at most, and used up. */
public final class SignTest {
  public static void main(String[] args) {
    usedUp();
    most();
    nowhere();
    Probe.end();
  }

  private static void usedUp() {
    Probe probe = new Probe(0);
    Probe.due("read 1.2.3", probe.read("1.2.3"), 0);
    Probe.due("read again", probe.orders.read(), -1);
    Probe.due("read 1.2", probe.read("1.2"), -4);
    Probe.due("the signs of a read that failed are gone", probe.read(".3"), -1);
    Probe.due("range 1.2.3", probe.range("1.2.3"), 0);
    Probe.due("range again", probe.orders.range(), -1);
    Probe.due("range 1.2.3 <", probe.range("1.2.3 <"), -8);
    Probe.due("the signs of a range that failed are gone", probe.range("2"), 1);
    probe.signs("4.5.");
    probe.orders.compare(0, 0);
    probe.orders.print(0);
    probe.orders.both(0, 1);
    Probe.due("other calls leave the signs", probe.read("6"), 1);
    Probe.due("all of them", probe.part(1, 1) + probe.part(1, 2), "56");
  }

  private static void most() {
    String long200 = "1.2." + "7".repeat(196);
    Probe probe = new Probe(0);
    Probe.due("200 signs", probe.read(long200), 0);
    Probe.due("201 signs", probe.read(long200 + "7"), 1);
    Probe.due("what is dropped", probe.orders.compare(0, 1), 0);
    Probe full = new Probe(0);
    Probe.due("the 201st can't be wrong", full.read(long200 + "!"), 0);
    Probe early = new Probe(0);
    Probe.due("200 signs that end too early", early.read("1.2." + "3".repeat(195) + "-" + "a"), -201);
    Probe.due("new signs", early.read("1.2.3"), 0);
  }

  private static void nowhere() {
    int[] strange = {-1, 0, 9, 10, 31, 127, 128, 160, 255, 49 + 256, 49 + 65536, 32 + 65536, Integer.MAX_VALUE,
      Integer.MIN_VALUE, '.' - 65536};
    for (int order = 0; order <= 2; order++) {
      for (int c : strange) {
        Probe probe = new Probe(order);
        probe.orders.sign(c);
        Probe.due("read of sign " + c, probe.orders.read(), -1);
        probe.orders.sign(c);
        Probe.due("range of sign " + c, probe.orders.range(), -1);
        String text = order == 2 ? "2024.02.29" : "1.2.3";
        probe.signs(text).orders.sign(c);
        Probe.due("read ended by sign " + c, probe.orders.read(), -1 - text.length());
        probe.signs(text).orders.sign(c);
        Probe.due("range ended by sign " + c, probe.orders.range(), -1 - text.length());
        probe.signs("* ").orders.sign(c);
        Probe.due("blank, then sign " + c, probe.orders.range(), -3);
        probe.signs("!").orders.sign(c);
        Probe.due("! and sign " + c, probe.orders.range(), -2);
      }
    }
  }
}
