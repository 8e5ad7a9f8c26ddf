/** Promise 3: texts of versions, and the places of what can't stand. */
public final class ReadTest {
  public static void main(String[] args) {
    semantic();
    packages();
    dates();
    numbers();
    Probe.end();
  }

  private static void stands(int order, String... texts) {
    for (String text : texts) {
      Probe.due("order " + order + ": read " + text, new Probe(order).read(text), 0);
    }
  }

  /** The place is where the text can't stand; its length if it ends too early. */
  private static void fails(int order, String text, int place) {
    Probe.due("order " + order + ": read " + text, new Probe(order).read(text), -1 - place);
  }

  private static void semantic() {
    stands(0, "0.0.0", "1.2.3", "10.20.30", "1.2.3-a", "1.2.3-0", "1.2.3-10.20", "1.2.3-a.b.0", "1.2.3-0a", "1.2.3-01a",
        "1.2.3-00-", "1.2.3--", "1.2.3---.-", "1.2.3-01-2", "1.2.3+a", "1.2.3+001", "1.2.3+-.0.00", "1.2.3-a+b",
        "1.2.3-Z.z+Z.9", "1.2." + "9".repeat(196));
    fails(0, "", 0);
    fails(0, "1", 1);
    fails(0, "1.", 2);
    fails(0, "1.2", 3);
    fails(0, "1.2.", 4);
    fails(0, "1.2.3-", 6);
    fails(0, "1.2.3+", 6);
    fails(0, "1.2.3-a.", 8);
    fails(0, "1.2.3-a+", 8);
    fails(0, "1.2.3+a.", 8);
    fails(0, "01.2.3", 1);
    fails(0, "1.00.3", 3);
    fails(0, "1.2.09", 5);
    fails(0, "a.2.3", 0);
    fails(0, "-1.2.3", 0);
    fails(0, ".1.2", 0);
    fails(0, "1..2", 2);
    fails(0, "1.x.3", 2);
    fails(0, "1.2.x", 4);
    fails(0, "1.2.*", 4);
    fails(0, "1.2.3.4", 5);
    fails(0, "1.2.3 ", 5);
    fails(0, " 1.2.3", 0);
    fails(0, "1.2.3a", 5);
    fails(0, "=1.2.3", 0);
    fails(0, "1.2.3-.a", 6);
    fails(0, "1.2.3-a..b", 8);
    fails(0, "1.2.3-01", 6);
    fails(0, "1.2.3-00", 6);
    fails(0, "1.2.3-a.01", 8);
    fails(0, "1.2.3-a.00.b", 8);
    fails(0, "1.2.3-01+b", 6);
    fails(0, "1.2.3-01$", 6);
    fails(0, "1.2.3-a_b", 7);
    fails(0, "1.2.3-a+b+c", 9);
    fails(0, "1.2.3+a_", 7);
    fails(0, "1.2-a", 3);
  }

  private static void packages() {
    stands(1, "0", "1", "007", "1.0", "1a", "1+", "1~", "1.", "1.0-1", "1-1-1", "1--1", "0:1", "1:1", "10:0", "0:0-0",
        "1:1.0~rc1-2", "1.0-a", "1.0-~", "1.0-.+", "1a-b-c");
    fails(1, "", 0);
    fails(1, "a1", 0);
    fails(1, "-1", 0);
    fails(1, "~1", 0);
    fails(1, ":1", 0);
    fails(1, "1:", 2);
    fails(1, "1:a", 2);
    fails(1, "1:-", 2);
    fails(1, "1:2:3", 3);
    fails(1, "1.0:1", 3);
    fails(1, "01:1", 2);
    fails(1, "00:1", 2);
    fails(1, "1.0-", 4);
    fails(1, "1-", 2);
    fails(1, "1-1-", 4);
    fails(1, "1--", 3);
    fails(1, "1.0-1:1", 5);
    fails(1, "1_0", 1);
    fails(1, "1 ", 1);
    fails(1, "1-_", 2);
  }

  private static void dates() {
    stands(2, "0000.01.01", "2024.12.31", "2024.02.29", "2000.02.29", "0000.02.29", "9999.12.31", "2023.02.28", "2023.04.30",
        "2023.01.31", "2023.03.31", "2023.05.31", "2023.07.31", "2023.08.31", "2023.10.31", "2023.06.30", "2023.09.30",
        "2023.11.30", "2024.02.29.0", "2024.02.29.10", "2024.02.29.123456789012345678901234567890");
    fails(2, "", 0);
    fails(2, "2", 1);
    fails(2, "2024", 4);
    fails(2, "2024.", 5);
    fails(2, "2024.1", 6);
    fails(2, "2024.12", 7);
    fails(2, "2024.12.", 8);
    fails(2, "2024.12.3", 9);
    fails(2, "2024.12.31.", 11);
    fails(2, "20240.12.31", 4);
    fails(2, "202.12.31", 3);
    fails(2, "2024-12-31", 4);
    fails(2, "2024.1.31", 6);
    fails(2, "2024.00.01", 5);
    fails(2, "2024.13.01", 5);
    fails(2, "2024.99", 5);
    fails(2, "2024.13x", 5);
    fails(2, "2024.1x", 6);
    fails(2, "2024.01.00", 8);
    fails(2, "2024.01.32", 8);
    fails(2, "2024.01.32.x", 8);
    fails(2, "2024.02.30", 8);
    fails(2, "2023.02.29", 8);
    fails(2, "1900.02.29", 8);
    fails(2, "2100.02.29", 8);
    fails(2, "2024.04.31", 8);
    fails(2, "2024.06.31", 8);
    fails(2, "2024.09.31", 8);
    fails(2, "2024.11.31", 8);
    fails(2, "2024.01.011", 10);
    fails(2, "2024.01.01.01", 12);
    fails(2, "2024.01.01.a", 11);
    fails(2, "2024.01.01.1.", 12);
    fails(2, "2024.01.01-1", 10);
  }

  /** Numbers go up by one with each version that stands, and only then. */
  private static void numbers() {
    Probe probe = new Probe(1);
    for (int i = 0; i < 200; i++) {
      Probe.due("version " + i, probe.read("1"), i);
      if (i % 50 == 0) {
        Probe.due("no version", probe.read("x"), -1);
      }
    }
  }
}
