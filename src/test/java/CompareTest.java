/** Promise 5: versions compared. */
public final class CompareTest {
  public static void main(String[] args) {
    rising(0, "0.0.0-0", "0.0.0-1", "0.0.0-a", "0.0.0", "0.0.1", "0.1.0", "0.2.0", "0.10.0", "1.0.0--", "1.0.0-0a", "1.0.0-A",
        "1.0.0-Aa", "1.0.0-Z", "1.0.0-a", "1.0.0-a.0", "1.0.0-a.0.0", "1.0.0-a.9", "1.0.0-a.10", "1.0.0-a.b", "1.0.0-a-", "1.0.0-a0",
        "1.0.0-aa", "1.0.0-b", "1.0.0", "2.0.0", "9.0.0", "10.0.0", "18446744073709551615.0.0", "18446744073709551616.0.0");
    rising(0, "1.0.0-0", "1.0.0-0.0", "1.0.0-9", "1.0.0-10", "1.0.0-18446744073709551616", "1.0.0--1", "1.0.0-1a");
    rising(1, "0~~", "0~~a", "0~", "0", "0a", "0+", "1~rc1", "1~rc2", "1~rc10", "1", "1-1~", "1-1", "1-1a", "1-2", "1-10", "1a~", "1a",
        "1a1", "1aa", "1b", "1+", "1.~", "1.", "1.1", "1.1a", "1.1.", "1.2", "1.10", "2", "10", "18446744073709551616", "1:0", "1:1", "2:0",
        "10:0", "18446744073709551616:0");
    rising(1, "1~", "1", "1Z", "1a", "1z", "1+", "1-0-0", "1.");
    rising(2, "0000.01.01", "0001.01.01", "2023.12.31.9", "2024.01.01", "2024.01.01.1", "2024.01.01.9", "2024.01.01.10",
        "2024.01.01.18446744073709551616", "2024.01.02", "2024.02.01", "2024.10.01", "9999.12.31");
    like(0, "1.2.3", "1.2.3+a", "1.2.3+b.c");
    like(0, "1.2.3-a.1", "1.2.3-a.1+0", "1.2.3-a.1+00");
    like(1, "1.0", "0:1.0", "1.00", "01.0", "1.0-0", "1.000-00", "0:001.0-0");
    like(1, "1a", "1a0", "1a00-0");
    like(1, "1:1-a", "1:1-a0");
    like(2, "2024.01.01", "2024.01.01.0");
    noVersion();
    Probe.end();
  }

  private static void rising(int order, String... texts) {
    for (int a = 0; a < texts.length; a++) {
      for (int b = 0; b < texts.length; b++) {
        compared(order, texts[a], texts[b], Integer.compare(a, b));
      }
    }
  }

  private static void like(int order, String... texts) {
    for (String a : texts) {
      for (String b : texts) {
        compared(order, a, b, 0);
      }
    }
  }

  private static void compared(int order, String a, String b, int want) {
    Probe probe = new Probe(order);
    Probe.due("read " + a, probe.read(a), 0);
    Probe.due("read " + b, probe.read(b), 1);
    Probe.due("compare " + a + ", " + b, probe.orders.compare(0, 1), want);
  }

  private static void noVersion() {
    Probe probe = new Probe(0);
    probe.read("1.2.3");
    for (int none : new int[] {1, -1, 300, -1000, Integer.MAX_VALUE, Integer.MIN_VALUE}) {
      Probe.due("compare 0, " + none, probe.orders.compare(0, none), -1000);
      Probe.due("compare " + none + ", 0", probe.orders.compare(none, 0), -1000);
      Probe.due("compare " + none + ", itself", probe.orders.compare(none, none), -1000);
    }
  }
}
