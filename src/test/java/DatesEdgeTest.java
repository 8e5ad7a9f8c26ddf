import java.time.YearMonth;

/** ORDER 2, sentence by sentence. */
public final class DatesEdgeTest {
  public static void main(String[] args) {
    fourDigits();
    months();
    days();
    leapYears();
    number();
    noNumber();
    where();
    order();
    parts();
    Probe.end();
  }

  private static void fourDigits() {
    Probe.sentence("four digits, . ");
    Ask.stands(2, "0000.01.01", "0001.01.01", "0999.01.01", "9999.12.31");
    Ask.fails(2, "1.01.01", 1);
    Ask.fails(2, "999.01.01", 3);
    Ask.fails(2, "10000.01.01", 4);
    Ask.fails(2, "a024.01.01", 0);
    Ask.fails(2, "202a.01.01", 3);
    Ask.fails(2, "-024.01.01", 0);
    Ask.fails(2, "2024-01.01", 4);
    Ask.fails(2, "2024 01.01", 4);
    Ask.rangeFails(2, "<999.01.01", 4);
  }

  private static void months() {
    Probe.sentence("two digits (01 .. 12)");
    for (int month = 0; month <= 99; month++) {
      String text = String.format("2023.%02d.01", month);
      Probe.due("read " + text, new Probe(2).read(text), month >= 1 && month <= 12 ? 0 : -6);
    }
    Ask.fails(2, "2024.1.01", 6);
    Ask.fails(2, "2024.001.01", 5);
    Ask.fails(2, "2024.011.01", 7);
    Ask.fails(2, "2024..01", 5);
    Ask.fails(2, "2024.a1.01", 5);
    Ask.fails(2, "2024.1a.01", 6);
    Ask.fails(2, "2024.01-01", 7);
  }

  private static void days() {
    Probe.sentence("two digits (a day of that month");
    for (int year : new int[] {1900, 2000, 2023, 2024}) {
      for (int month = 1; month <= 12; month++) {
        int most = YearMonth.of(year, month).lengthOfMonth();
        for (int day = 0; day <= 99; day++) {
          String text = String.format("%04d.%02d.%02d", year, month, day);
          Probe.due("read " + text, new Probe(2).read(text), day >= 1 && day <= most ? 0 : -9);
        }
      }
    }
    Ask.fails(2, "2024.01.1", 9);
    Ask.fails(2, "2024.01.1.1", 9);
    Ask.fails(2, "2024.01.011", 10);
    Ask.fails(2, "2024.01..1", 8);
    Ask.fails(2, "2024.01.a1", 8);
    Ask.fails(2, "2024.01.1a", 9);
  }

  private static void leapYears() {
    Probe.sentence("29 of February in years of which 4 is a divisor, but not 100, or 400)");
    for (int year = 0; year <= 9999; year++) {
      String text = String.format("%04d.02.29", year);
      boolean leap = year % 400 == 0 || year % 4 == 0 && year % 100 != 0;
      Probe.due("read " + text, new Probe(2).read(text), leap ? 0 : -9);
    }
    Ask.stands(2, "0000.02.29", "0004.02.29", "0400.02.29", "1600.02.29", "2000.02.29", "2400.02.29", "2024.02.29");
    Ask.fails(2, "0100.02.29", 8);
    Ask.fails(2, "1900.02.29", 8);
    Ask.fails(2, "2100.02.29", 8);
    Ask.fails(2, "2023.02.29", 8);
    Ask.fails(2, "2022.02.29", 8);
    Ask.fails(2, "2024.02.30", 8);
    Ask.fails(2, "2000.02.30", 8);
  }

  private static void number() {
    Probe.sentence("perhaps . and a NUMBER");
    Ask.stands(2, "2024.01.01.0", "2024.01.01.9", "2024.01.01.10", "2024.01.01." + "9".repeat(189));
    Ask.fails(2, "2024.01.01.", 11);
    Ask.fails(2, "2024.01.01.00", 12);
    Ask.fails(2, "2024.01.01.01", 12);
    Ask.fails(2, "2024.01.01.a", 11);
    Ask.fails(2, "2024.01.01.-1", 11);
    Ask.fails(2, "2024.01.01.1.", 12);
    Ask.fails(2, "2024.01.01.1.1", 12);
    Ask.fails(2, "2024.01.01-1", 10);
    Ask.rangeFails(2, "2024.01.01. - 2024.01.02", 11);
  }

  private static void noNumber() {
    Probe.sentence("a NUMBER (0 without)");
    Ask.like(2, "2024.01.01", "2024.01.01.0");
    Ask.rising(2, "2023.12.31.9", "2024.01.01", "2024.01.01.1");
    Ask.in(2, "=2024.01.01", "2024.01.01.0", true);
    Ask.in(2, ">2024.01.01.0", "2024.01.01", false);
    Probe probe = new Probe(2);
    probe.read("2024.01.01");
    Probe.due("the NUMBER of a date without", probe.part(0, 3), "0");
  }

  private static void where() {
    Probe.sentence("A date that isn't one can't stand where its two digits begin");
    Ask.fails(2, "2024.00.01", 5);
    Ask.fails(2, "2024.13.01", 5);
    Ask.fails(2, "2024.13", 5);
    Ask.fails(2, "2024.13.", 5);
    Ask.fails(2, "2024.13$", 5);
    Ask.fails(2, "2024.00.00", 5);
    Ask.fails(2, "2024.01.00", 8);
    Ask.fails(2, "2024.01.32", 8);
    Ask.fails(2, "2024.04.31.7", 8);
    Ask.fails(2, "2024.04.31$", 8);
    Ask.rangeFails(2, "2024.13.01", 5);
    Ask.rangeFails(2, "<=2024.02.30", 10);
    Ask.rangeFails(2, "2024.01.01 2023.02.29", 19);
    Ask.rangeFails(2, "* || >2024.00.01", 11);
    Ask.rangeFails(2, "2024.01.01 - 2024.01.32", 21);
    Ask.rangeFails(2, "2024.13.01 - 2024.01.32", 5);
  }

  private static void order() {
    Probe.sentence("dates are compared by their PARTS in turn");
    for (int year = 0; year < 9999; year++) {
      Probe probe = new Probe(2);
      probe.read(String.format("%04d.12.31.9", year));
      probe.read(String.format("%04d.01.01", year + 1));
      Probe.due("the last of " + year + " and the first of the next", probe.orders.compare(0, 1), -1);
    }
    Ask.rising(2, "0000.01.01", "0001.01.01", "0099.12.31", "0100.01.01", "1999.12.31", "2000.01.01", "2023.11.30", "2023.12.01", "2024.01.31",
        "2024.02.01", "2024.02.09", "2024.02.10", "2024.02.10.9", "2024.02.10.10", "2024.02.11", "2024.09.01", "2024.10.01", "9999.12.31");
  }

  private static void parts() {
    Probe.sentence("PARTS: 2: year, month, day, and the NUMBER");
    Probe probe = new Probe(2);
    probe.read("0012.03.04.5");
    Probe.due("its parts", probe.part(0, 0) + " " + probe.part(0, 1) + " " + probe.part(0, 2) + " " + probe.part(0, 3), "12 3 4 5");
    Probe.due("no fifth", probe.part(0, 4), Probe.THROWS);
  }
}
