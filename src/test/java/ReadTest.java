/** Promise 3: texts of versions, and the places of what can't stand. */
public final class ReadTest {
  public static void main(String[] args) {
    semantic();
    packages();
    dates();
    numbers();
    Probe.end();
  }

  private static void semantic() {
    Ask.stands(0, "0.0.0", "1.2.3", "10.20.30", "1.2.3-a", "1.2.3-0", "1.2.3-10.20", "1.2.3-a.b.0", "1.2.3-0a", "1.2.3-01a",
        "1.2.3-00-", "1.2.3--", "1.2.3---.-", "1.2.3-01-2", "1.2.3+a", "1.2.3+001", "1.2.3+-.0.00", "1.2.3-a+b",
        "1.2.3-Z.z+Z.9", "1.2." + "9".repeat(196));
    Ask.fails(0, "", 0);
    Ask.fails(0, "1", 1);
    Ask.fails(0, "1.", 2);
    Ask.fails(0, "1.2", 3);
    Ask.fails(0, "1.2.", 4);
    Ask.fails(0, "1.2.3-", 6);
    Ask.fails(0, "1.2.3+", 6);
    Ask.fails(0, "1.2.3-a.", 8);
    Ask.fails(0, "1.2.3-a+", 8);
    Ask.fails(0, "1.2.3+a.", 8);
    Ask.fails(0, "01.2.3", 1);
    Ask.fails(0, "1.00.3", 3);
    Ask.fails(0, "1.2.09", 5);
    Ask.fails(0, "a.2.3", 0);
    Ask.fails(0, "-1.2.3", 0);
    Ask.fails(0, ".1.2", 0);
    Ask.fails(0, "1..2", 2);
    Ask.fails(0, "1.x.3", 2);
    Ask.fails(0, "1.2.x", 4);
    Ask.fails(0, "1.2.*", 4);
    Ask.fails(0, "1.2.3.4", 5);
    Ask.fails(0, "1.2.3 ", 5);
    Ask.fails(0, " 1.2.3", 0);
    Ask.fails(0, "1.2.3a", 5);
    Ask.fails(0, "=1.2.3", 0);
    Ask.fails(0, "1.2.3-.a", 6);
    Ask.fails(0, "1.2.3-a..b", 8);
    Ask.fails(0, "1.2.3-01", 6);
    Ask.fails(0, "1.2.3-00", 6);
    Ask.fails(0, "1.2.3-a.01", 8);
    Ask.fails(0, "1.2.3-a.00.b", 8);
    Ask.fails(0, "1.2.3-01+b", 6);
    Ask.fails(0, "1.2.3-01$", 6);
    Ask.fails(0, "1.2.3-a_b", 7);
    Ask.fails(0, "1.2.3-a+b+c", 9);
    Ask.fails(0, "1.2.3+a_", 7);
    Ask.fails(0, "1.2-a", 3);
  }

  private static void packages() {
    Ask.stands(1, "0", "1", "007", "1.0", "1a", "1+", "1~", "1.", "1.0-1", "1-1-1", "1--1", "0:1", "1:1", "10:0", "0:0-0",
        "1:1.0~rc1-2", "1.0-a", "1.0-~", "1.0-.+", "1a-b-c");
    Ask.fails(1, "", 0);
    Ask.fails(1, "a1", 0);
    Ask.fails(1, "-1", 0);
    Ask.fails(1, "~1", 0);
    Ask.fails(1, ":1", 0);
    Ask.fails(1, "1:", 2);
    Ask.fails(1, "1:a", 2);
    Ask.fails(1, "1:-", 2);
    Ask.fails(1, "1:2:3", 3);
    Ask.fails(1, "1.0:1", 3);
    Ask.fails(1, "01:1", 2);
    Ask.fails(1, "00:1", 2);
    Ask.fails(1, "1.0-", 4);
    Ask.fails(1, "1-", 2);
    Ask.fails(1, "1-1-", 4);
    Ask.fails(1, "1--", 3);
    Ask.fails(1, "1.0-1:1", 5);
    Ask.fails(1, "1_0", 1);
    Ask.fails(1, "1 ", 1);
    Ask.fails(1, "1-_", 2);
  }

  private static void dates() {
    Ask.stands(2, "0000.01.01", "2024.12.31", "2024.02.29", "2000.02.29", "0000.02.29", "9999.12.31", "2023.02.28", "2023.04.30",
        "2023.01.31", "2023.03.31", "2023.05.31", "2023.07.31", "2023.08.31", "2023.10.31", "2023.06.30", "2023.09.30",
        "2023.11.30", "2024.02.29.0", "2024.02.29.10", "2024.02.29.123456789012345678901234567890");
    Ask.fails(2, "", 0);
    Ask.fails(2, "2", 1);
    Ask.fails(2, "2024", 4);
    Ask.fails(2, "2024.", 5);
    Ask.fails(2, "2024.1", 6);
    Ask.fails(2, "2024.12", 7);
    Ask.fails(2, "2024.12.", 8);
    Ask.fails(2, "2024.12.3", 9);
    Ask.fails(2, "2024.12.31.", 11);
    Ask.fails(2, "20240.12.31", 4);
    Ask.fails(2, "202.12.31", 3);
    Ask.fails(2, "2024-12-31", 4);
    Ask.fails(2, "2024.1.31", 6);
    Ask.fails(2, "2024.00.01", 5);
    Ask.fails(2, "2024.13.01", 5);
    Ask.fails(2, "2024.99", 5);
    Ask.fails(2, "2024.13x", 5);
    Ask.fails(2, "2024.1x", 6);
    Ask.fails(2, "2024.01.00", 8);
    Ask.fails(2, "2024.01.32", 8);
    Ask.fails(2, "2024.01.32.x", 8);
    Ask.fails(2, "2024.02.30", 8);
    Ask.fails(2, "2023.02.29", 8);
    Ask.fails(2, "1900.02.29", 8);
    Ask.fails(2, "2100.02.29", 8);
    Ask.fails(2, "2024.04.31", 8);
    Ask.fails(2, "2024.06.31", 8);
    Ask.fails(2, "2024.09.31", 8);
    Ask.fails(2, "2024.11.31", 8);
    Ask.fails(2, "2024.01.011", 10);
    Ask.fails(2, "2024.01.01.01", 12);
    Ask.fails(2, "2024.01.01.a", 11);
    Ask.fails(2, "2024.01.01.1.", 12);
    Ask.fails(2, "2024.01.01-1", 10);
  }

  /** Numbers go up by one with each version that stands, and only then. */
  private static void numbers() {
    Probe probe = new Probe(1);
    for (int i = 0; i < 200; i++) {
      Probe.due("version " + i, probe.read("1"), i);
      if (i % 50 == 0) {
        Probe.due("no version", probe.read("x"), -1);
      }
    }
  }
}
