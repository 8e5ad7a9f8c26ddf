/** NUMBER, NAME and ORDER 0, sentence by sentence. */
public final class SemanticEdgeTest {
  private static final String NAME = "abcdefghijklmnopqrstuvwxyzABCDEFGHIJKLMNOPQRSTUVWXYZ0123456789-";

  public static void main(String[] args) {
    anyLength();
    zeroInFront();
    zeroAlone();
    comparedAsNumbers();
    nameSigns();
    threeNumbers();
    zeroInFrontOfMarks();
    zeroInFrontElsewhere();
    emptyNames();
    comparedByNumbers();
    withMarksLess();
    markByMark();
    behindPlus();
    Probe.end();
  }

  private static void anyLength() {
    Probe.sentence("A NUMBER is a row of digits, of any length");
    String digits = "1234567890".repeat(19);
    Ask.stands(0, digits + ".0.0", "0." + digits + ".0", "0.0." + digits, "0.0.0-" + digits, "9".repeat(196) + ".0.0");
    Ask.stands(1, digits + ":0", digits, "0-" + digits);
    Ask.stands(2, "2024.01.01." + digits.substring(0, 189));
    Ask.means(0, ">" + digits + ".0.0", ">" + digits + ".0.0");
  }

  private static void zeroInFront() {
    Probe.sentence("without 0 in front");
    for (String zeros : new String[] {"00", "01", "09", "007", "0".repeat(30)}) {
      Ask.fails(0, zeros + ".1.1", 1);
      Ask.fails(0, "1." + zeros + ".1", 3);
      Ask.fails(0, "1.1." + zeros, 5);
      Ask.fails(0, "1.1." + zeros + "-a", 5);
      Ask.fails(2, "2024.01.01." + zeros, 12);
      Ask.rangeFails(0, ">=" + zeros, 3);
      Ask.rangeFails(0, "1 - 2." + zeros, 7);
      Ask.rangeFails(0, "^1.1." + zeros, 6);
      Ask.rangeFails(2, "<2024.01.01." + zeros, 13);
    }
    // 01 could be a MAIN text: so it is the : that should not be there.
    Ask.fails(1, "01:1", 2);
    Ask.fails(1, "00:1", 2);
    Ask.fails(1, "007:1", 3);
  }

  private static void zeroAlone() {
    Probe.sentence("(0 alone may be)");
    Ask.stands(0, "0.0.0", "0.1.1", "1.0.1", "1.1.0", "10.100.1000", "1.1.1-0", "1.1.1-0.0.0");
    Ask.stands(1, "0:1", "0:0");
    Ask.stands(2, "2024.01.01.0");
    Ask.means(0, "0", ">=0.0.0 <1.0.0-0");
    Ask.means(0, "0.0", ">=0.0.0 <0.1.0-0");
    Ask.means(0, "0.0.0", "=0.0.0");
  }

  private static void comparedAsNumbers() {
    Probe.sentence("NUMBERS are compared as such");
    String long1 = "1" + "0".repeat(90);
    String[] numbers = {"0", "1", "2", "9", "10", "11", "19", "20", "99", "100", "2147483647", "2147483648", "4294967296", "9223372036854775807",
      "9223372036854775808", "18446744073709551616", "9".repeat(90), long1, long1.substring(0, 90) + "1", "2" + "0".repeat(90)};
    for (int a = 0; a < numbers.length; a++) {
      for (int b = 0; b < numbers.length; b++) {
        int want = Integer.compare(a, b);
        Ask.compared(0, numbers[a] + ".5.5", numbers[b] + ".5.5", want);
        Ask.compared(0, "5." + numbers[a] + ".5", "5." + numbers[b] + ".5", want);
        Ask.compared(0, "5.5." + numbers[a], "5.5." + numbers[b], want);
        Ask.compared(0, "5.5.5-" + numbers[a], "5.5.5-" + numbers[b], want);
        Ask.compared(1, numbers[a] + ":5", numbers[b] + ":5", want);
        Ask.compared(2, "2024.01.01." + numbers[a], "2024.01.01." + numbers[b], want);
      }
    }
  }

  private static void nameSigns() {
    Probe.sentence("A NAME is a row of letters, digits and -");
    for (char c = 32; c <= 126; c++) {
      // These two may stand behind a NAME.
      if (c == '.' || c == '+') {
        continue;
      }
      for (String begin : new String[] {"1.2.3-", "1.2.3-a", "1.2.3-a.b", "1.2.3+", "1.2.3+a", "1.2.3-a+b."}) {
        boolean stands = NAME.indexOf(c) >= 0;
        Probe.due("read " + begin + c + "d", new Probe(0).read(begin + c + "d"), stands ? 0 : -1 - begin.length());
      }
    }
  }

  private static void threeNumbers() {
    Probe.sentence("NUMBER . NUMBER . NUMBER");
    Ask.fails(0, "1", 1);
    Ask.fails(0, "1.2", 3);
    Ask.fails(0, "1.2.3.4", 5);
    Ask.fails(0, "1.2.", 4);
    Ask.fails(0, ".2.3", 0);
    Ask.fails(0, "1..3", 2);
    Ask.fails(0, "1.2-a", 3);
    Ask.fails(0, "1+a", 1);
    Ask.fails(0, "1.x.x", 2);
    Ask.fails(0, "1.2.x", 4);
    Ask.fails(0, "x", 0);
    Ask.fails(0, "*", 0);
    Ask.fails(0, "-1.2.3", 0);
    Ask.fails(0, "+1.2.3", 0);
    Ask.fails(0, "1.2.-3", 4);
  }

  private static void zeroInFrontOfMarks() {
    Probe.sentence("one of digits alone is a NUMBER (a 0 in front can't stand: its place)");
    for (String zeros : new String[] {"00", "01", "09", "0123456789", "000"}) {
      Ask.fails(0, "1.2.3-" + zeros, 6);
      Ask.fails(0, "1.2.3-" + zeros + ".a", 6);
      Ask.fails(0, "1.2.3-" + zeros + "+b", 6);
      Ask.fails(0, "1.2.3-a." + zeros, 8);
      Ask.fails(0, "1.2.3-0." + zeros + ".1", 8);
      Ask.fails(0, "1.2.3-a.b.10." + zeros + "+01", 13);
      Ask.rangeFails(0, ">=1.2.3-" + zeros, 8);
      Ask.rangeFails(0, "* || ~1.2.3-a." + zeros + " <2", 14);
      Ask.rangeFails(0, "1.2.3-" + zeros + " - 2", 6);
      Ask.rangeFails(0, "1 - 1.2.3-" + zeros, 10);
    }
    Ask.stands(0, "1.2.3-0", "1.2.3-0.0", "1.2.3-10", "1.2.3-100.a");
  }

  private static void zeroInFrontElsewhere() {
    Probe.sentence("MARKS are NAMES, but one of digits alone: a 0 may be in front of others, and behind +");
    Ask.stands(0, "1.2.3-0a", "1.2.3-00a", "1.2.3-01-", "1.2.3-0-0", "1.2.3-a0", "1.2.3-a.00b.0", "1.2.3--01", "1.2.3-01a.01b");
    Ask.stands(0, "1.2.3+0", "1.2.3+00", "1.2.3+01", "1.2.3+a.01", "1.2.3-a+01.00", "1.2.3-0+00");
  }

  private static void emptyNames() {
    Probe.sentence("perhaps - and MARKS, perhaps + and NAMES with . between");
    Ask.fails(0, "1.2.3-", 6);
    Ask.fails(0, "1.2.3+", 6);
    Ask.fails(0, "1.2.3-.a", 6);
    Ask.fails(0, "1.2.3-a.", 8);
    Ask.fails(0, "1.2.3-a..b", 8);
    Ask.fails(0, "1.2.3-+b", 6);
    Ask.fails(0, "1.2.3-a.+b", 8);
    Ask.fails(0, "1.2.3-a+", 8);
    Ask.fails(0, "1.2.3+.b", 6);
    Ask.fails(0, "1.2.3+a.", 8);
    Ask.fails(0, "1.2.3+a..b", 8);
    Ask.fails(0, "1.2.3+a+b", 7);
    Ask.fails(0, "1.2.3-a+b+c", 9);
    Ask.stands(0, "1.2.3--", "1.2.3---", "1.2.3-a-b", "1.2.3+a-b", "1.2.3+-", "1.2.3-a+b-c", "1.2.3-a.b.c.d+e.f.g.h");
  }

  private static void comparedByNumbers() {
    Probe.sentence("Compared: the three NUMBERS");
    Ask.rising(0, "0.0.0", "0.0.1", "0.0.10", "0.1.0", "0.1.9", "0.10.0", "1.0.0", "1.0.1", "1.1.0", "1.9.9", "2.0.0", "10.0.0");
  }

  private static void withMarksLess() {
    Probe.sentence("then one with MARKS is less");
    Ask.rising(0, "1.2.2", "1.2.3-0", "1.2.3-z.z.z", "1.2.3", "1.2.4-0", "1.2.4");
  }

  private static void markByMark() {
    Probe.sentence("then MARK by MARK: NUMBERS, NUMBERS less than others, others sign by sign, the one that another begins with less; fewer MARKS less");
    Ask.rising(0, "1.0.0-alpha", "1.0.0-alpha.1", "1.0.0-alpha.beta", "1.0.0-beta", "1.0.0-beta.2", "1.0.0-beta.11", "1.0.0-rc.1", "1.0.0");
    Ask.rising(0, "1.0.0-0", "1.0.0-1", "1.0.0-9", "1.0.0-10", "1.0.0-" + "9".repeat(180), "1.0.0--", "1.0.0-0a", "1.0.0-A");
    Ask.rising(0, "1.0.0--", "1.0.0--0", "1.0.0--a", "1.0.0-0-", "1.0.0-0A", "1.0.0-9a", "1.0.0-A", "1.0.0-Z", "1.0.0-a", "1.0.0-z");
    Ask.rising(0, "1.0.0-a", "1.0.0-a-", "1.0.0-a0", "1.0.0-aA", "1.0.0-aa", "1.0.0-aaa", "1.0.0-ab", "1.0.0-b");
    Ask.rising(0, "1.0.0-a", "1.0.0-a.0", "1.0.0-a.0.0", "1.0.0-a.0.a", "1.0.0-a.1", "1.0.0-a.a", "1.0.0-a.a.0", "1.0.0-a-.0", "1.0.0-aa.0");
    Ask.rising(0, "1.0.0-1", "1.0.0-1.0", "1.0.0-1.z", "1.0.0-2", "1.0.0-10.0", "1.0.0-10.a", "1.0.0-1a");
  }

  private static void behindPlus() {
    Probe.sentence("What is behind + counts for nothing");
    Ask.like(0, "1.2.3", "1.2.3+a", "1.2.3+z", "1.2.3+0.1.2", "1.2.3+-");
    Ask.like(0, "1.2.3-a", "1.2.3-a+a", "1.2.3-a+b.c");
    Ask.rising(0, "1.2.3-a+z", "1.2.3+a", "1.2.4+0");
    Ask.in(0, "=1.2.3+a", "1.2.3+b", true);
    Ask.in(0, ">1.2.3+a", "1.2.3+b", false);
    Ask.in(0, "<=1.2.3+a", "1.2.3+b", true);
    Ask.in(0, "*", "1.2.3+a-b", true);
    Probe probe = new Probe(0);
    probe.read("1.2.3+a.b");
    Probe.due("its last NUMBER", probe.part(0, 2), "3");
    Probe.due("what is behind + is no part", probe.part(0, 3), Probe.THROWS);
  }
}
