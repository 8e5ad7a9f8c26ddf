/** The boundary cases that the promises themselves name, sentence by sentence. */
public final class CallsEdgeTest {
  public static void main(String[] args) {
    order();
    greatNumbers();
    otherMarks();
    noVersion();
    noPart();
    compare();
    inNoneSuch();
    bothAndNot();
    empty();
    next();
    nextOfLikeOnes();
    nextOfNone();
    printNone();
    at();
    Probe.end();
  }

  private static void order() {
    Probe.sentence("Promise 1: An order 0, 1, 2: one below is 0, one above 2");
    for (int given : new int[] {0, -1, -2, -1000, Integer.MIN_VALUE, Integer.MIN_VALUE + 1, Integer.MIN_VALUE + 2}) {
      Probe.due("order " + given + " is 0: ^1", new Probe(given).shown("^1"), ">=1.0.0 <2.0.0-0");
      Probe.due("order " + given + " is 0: 1:1", new Probe(given).read("1:1"), -2);
    }
    Probe.due("order 1: 1:1", new Probe(1).read("1:1"), 0);
    Probe.due("order 1: ^1", new Probe(1).range("^1"), -1);
    for (int given : new int[] {2, 3, 4, 7, 256, 1000, 65537, Integer.MAX_VALUE}) {
      Probe.due("order " + given + " is 2: 2024.02.29", new Probe(given).read("2024.02.29"), 0);
      Probe.due("order " + given + " is 2: 2024.02.30", new Probe(given).read("2024.02.30"), -9);
      Probe.due("order " + given + " is 2: 1:1", new Probe(given).read("1:1"), -2);
    }
  }

  private static void part(int order, String text, int i, String want) {
    Probe probe = new Probe(order);
    Probe.due("read " + text, probe.read(text), 0);
    Probe.due("part " + i + " of " + text, probe.part(0, i), want);
  }

  private static void greatNumbers() {
    Probe.sentence("Promise 4: a NUMBER (2147483647 if it is as great, or greater)");
    String[] numbers = {"0", "1", "2147483646", "2147483647", "2147483648", "4294967295", "4294967296", "4294967297", "9223372036854775807",
      "9223372036854775808", "18446744073709551615", "18446744073709551616", "18446744073709551617", "1" + "0".repeat(100), "9".repeat(100)};
    for (int i = 0; i < numbers.length; i++) {
      String want = i < 3 ? numbers[i] : "2147483647";
      part(0, numbers[i] + ".5.5", 0, want);
      part(0, "5." + numbers[i] + ".5", 1, want);
      part(0, "5.5." + numbers[i], 2, want);
      part(0, "5.5.5-a." + numbers[i], 4, want);
      part(1, numbers[i] + ":5", 0, want);
      part(2, "2024.01.01." + numbers[i], 3, want);
    }
  }

  private static void otherMarks() {
    Probe.sentence("Promise 4: or of another MARK minus how many signs it has");
    part(0, "1.2.3-a", 3, "-1");
    part(0, "1.2.3--", 3, "-1");
    part(0, "1.2.3-0a", 3, "-2");
    part(0, "1.2.3-1-", 3, "-2");
    part(0, "1.2.3-1.rc.22.beta", 4, "-2");
    part(0, "1.2.3-1.rc.22.beta", 6, "-4");
    part(0, "1.2.3-1.rc.22.beta", 5, "22");
    part(0, "1.2.3-" + "a".repeat(194), 3, "-194");
    part(0, "1.2.3-0", 3, "0");
  }

  private static void noVersion() {
    Probe.sentence("Promise 4: - 1000 if there is no such version");
    Probe probe = new Probe(0);
    probe.read("1.2.3");
    for (int i : new int[] {0, 2, 3, -1, Integer.MAX_VALUE, Integer.MIN_VALUE}) {
      Probe.due("part(1, " + i + ")", probe.part(1, i), "-1000");
      for (int none : Ask.NONE_SUCH) {
        Probe.due("part(" + none + ", " + i + ")", probe.part(none, i), "-1000");
      }
    }
  }

  private static void noPart() {
    Probe.sentence("Promise 4: The row's own failure where there is no such part");
    String[][] texts = {{"1.2.3", "1.2.3+a", "1.2.3-a", "1.2.3-a.1.b"}, {"1", "1:1-1"}, {"2024.01.01", "2024.01.01.7"}};
    int[][] parts = {{3, 3, 4, 6}, {1, 1}, {4, 4}};
    for (int order = 0; order <= 2; order++) {
      for (int k = 0; k < texts[order].length; k++) {
        int many = parts[order][k];
        part(order, texts[order][k], many, Probe.THROWS);
        for (int none : new int[] {many + 1, -1, -1000, Integer.MAX_VALUE, Integer.MIN_VALUE}) {
          part(order, texts[order][k], none, Probe.THROWS);
        }
      }
    }
    Probe probe = new Probe(0);
    probe.read("1.2.3");
    probe.part(0, 3);
    Probe.due("all is as before", probe.part(0, 2), "3");
    Probe.due("its class", failure(probe).getClass(), ArrayIndexOutOfBoundsException.class);
    // LANGUAGE.md's rule 7: it is thrown by the class, not by the machine, which would tell the index.
    Probe.due("it isn't the machine's", failure(probe).getMessage(), "no such part");
  }

  private static RuntimeException failure(Probe probe) {
    try {
      probe.orders.part(0, 3);
      return new IllegalStateException("nothing was thrown");
    } catch (RuntimeException e) {
      return e;
    }
  }

  private static void compare() {
    Probe.sentence("Promise 5: - 1, 0, 1: the first one is less, like, greater; - 1000");
    Probe probe = new Probe(1);
    probe.read("1");
    probe.read("999999999999");
    probe.read("1-0");
    Probe.due("compare(0, 1)", probe.orders.compare(0, 1), -1);
    Probe.due("compare(1, 0)", probe.orders.compare(1, 0), 1);
    Probe.due("compare(0, 2)", probe.orders.compare(0, 2), 0);
    Probe.due("compare(1, 1)", probe.orders.compare(1, 1), 0);
    Probe.due("compare(0, 3)", probe.orders.compare(0, 3), -1000);
    Probe.due("compare(3, 0)", probe.orders.compare(3, 0), -1000);
    Probe.due("compare(-1, 0)", probe.orders.compare(-1, 0), -1000);
    Probe.due("compare(0, -1)", probe.orders.compare(0, -1), -1000);
    Probe.due("compare(3, 3)", probe.orders.compare(3, 3), -1000);
  }

  private static void inNoneSuch() {
    Probe.sentence("Promise 7: false if there is none such");
    Probe probe = new Probe(0);
    probe.read("1.2.3");
    probe.range("*");
    Probe.due("in(0, 0)", probe.orders.in(0, 0), true);
    Probe.due("in(0, 1)", probe.orders.in(0, 1), false);
    Probe.due("in(1, 0)", probe.orders.in(1, 0), false);
    for (int none : Ask.NONE_SUCH) {
      Probe.due("in(0, " + none + ")", probe.orders.in(0, none), false);
      Probe.due("in(" + none + ", 0)", probe.orders.in(none, 0), false);
      Probe.due("in(" + none + ", " + none + ")", probe.orders.in(none, none), false);
    }
  }

  private static void bothAndNot() {
    Probe.sentence("Promises 8 and 9: A new set; - 1000");
    Probe probe = new Probe(0);
    probe.range("1.0.0 || 2.0.0");
    Probe.due("both(0, 0) is new", probe.orders.both(0, 0), 1);
    Probe.due("not(0) is new", probe.orders.not(0), 2);
    Probe.due("not(2) is new", probe.orders.not(2), 3);
    Probe.due("the first set stays", probe.printed(0), "=1.0.0 || =2.0.0");
    Probe.due("both", probe.printed(1), "=1.0.0 || =2.0.0");
    Probe.due("not", probe.printed(2), "<1.0.0 || >1.0.0 <2.0.0 || >2.0.0");
    Probe.due("not, again", probe.printed(3), "=1.0.0 || =2.0.0");
    Probe.due("both(0, 4)", probe.orders.both(0, 4), -1000);
    Probe.due("both(4, 0)", probe.orders.both(4, 0), -1000);
    Probe.due("both(-1, 0)", probe.orders.both(-1, 0), -1000);
    Probe.due("both(0, -1)", probe.orders.both(0, -1), -1000);
    Probe.due("not(4)", probe.orders.not(4), -1000);
    Probe.due("not(-1)", probe.orders.not(-1), -1000);
    Probe.due("the next set", probe.orders.not(0), 4);
  }

  private static void empty() {
    Probe.sentence("Promise 10: Whether a set has no span; false if there is none such");
    Probe probe = new Probe(0);
    Probe.due("empty(0) before there is a set", probe.orders.empty(0), false);
    probe.range("!");
    probe.range("1.0.0");
    probe.range(">1.0.0 <1.0.0");
    Probe.due("empty(0)", probe.orders.empty(0), true);
    Probe.due("empty(1)", probe.orders.empty(1), false);
    Probe.due("empty(2)", probe.orders.empty(2), true);
    Probe.due("empty(3)", probe.orders.empty(3), false);
    for (int none : Ask.NONE_SUCH) {
      Probe.due("empty(" + none + ")", probe.orders.empty(none), false);
    }
  }

  private static void next() {
    Probe.sentence("Promise 11: Of the versions that were read, the least one that is IN a set and greater than a version");
    Probe probe = new Probe(0);
    for (String version : new String[] {"3.0.0", "2.0.0", "1.0.0", "2.5.0", "2.0.0-a", "4.0.0-a"}) {
      probe.read(version);
    }
    probe.range("*");
    probe.range(">2.0.0 || <1.5.0");
    probe.range(">=2.0.0-0");
    Probe.due("the least one", probe.orders.next(0, 2), 1);
    Probe.due("greater, not like", probe.orders.next(0, 1), 3);
    Probe.due("behind a version with MARKS", probe.orders.next(0, 4), 1);
    Probe.due("only those IN the set", probe.orders.next(1, 2), 3);
    Probe.due("behind one that isn't IN the set", probe.orders.next(1, 1), 3);
    Probe.due("one with MARKS that is IN the set", probe.orders.next(2, 2), 4);
    Probe.due("the greatest has none behind it", probe.orders.next(0, 0), -1);
  }

  private static void nextOfLikeOnes() {
    Probe.sentence("Promise 11: (the first number of like ones)");
    Probe probe = new Probe(1);
    for (String version : new String[] {"3.0", "1", "2.00", "2.0", "0:2.0", "3.00", "1-0"}) {
      probe.read(version);
    }
    probe.range("*");
    Probe.due("of three like ones", probe.orders.next(0, 1), 2);
    Probe.due("behind a like one of the first", probe.orders.next(0, 6), 2);
    Probe.due("behind each of them", probe.orders.next(0, 2) + " " + probe.orders.next(0, 3) + " " + probe.orders.next(0, 4), "0 0 0");
    Probe.due("of like ones a like one isn't greater", probe.orders.next(0, 0) + " " + probe.orders.next(0, 5), "-1 -1");
  }

  private static void nextOfNone() {
    Probe.sentence("Promise 11: - 1 if there is none; - 1000");
    Probe probe = new Probe(0);
    probe.range("*");
    Probe.due("next(0, 0) before there is a version", probe.orders.next(0, 0), -1000);
    probe.read("1.0.0");
    probe.read("2.0.0");
    probe.range("!");
    probe.range("<=1.0.0");
    Probe.due("none greater", probe.orders.next(0, 1), -1);
    Probe.due("none IN an empty set", probe.orders.next(1, 0), -1);
    Probe.due("none that is both", probe.orders.next(2, 0), -1);
    Probe.due("no such set", probe.orders.next(3, 0), -1000);
    Probe.due("no such version", probe.orders.next(0, 2), -1000);
    for (int none : Ask.NONE_SUCH) {
      Probe.due("next(0, " + none + ")", probe.orders.next(0, none), -1000);
      Probe.due("next(" + none + ", 0)", probe.orders.next(none, 0), -1000);
      Probe.due("next(" + none + ", " + none + ")", probe.orders.next(none, none), -1000);
    }
  }

  private static void printNone() {
    Probe.sentence("Promise 12: - 1000 (what was printed before stays)");
    Probe probe = new Probe(0);
    Probe.due("print(0) before there is a set", probe.orders.print(0), -1000);
    Probe.due("nothing was printed", probe.orders.at(0), -1);
    probe.range(">=1.2.3");
    probe.range("*");
    Probe.due("print(0)", probe.orders.print(0), 7);
    for (int none : new int[] {2, -1, 199, 200, Integer.MAX_VALUE, Integer.MIN_VALUE}) {
      Probe.due("print(" + none + ")", probe.orders.print(none), -1000);
      StringBuilder stays = new StringBuilder();
      for (int i = 0; i < 7; i++) {
        stays.append((char) probe.orders.at(i));
      }
      Probe.due("what was printed before", stays.toString(), ">=1.2.3");
      Probe.due("and no more", probe.orders.at(7), -1);
    }
    Probe.due("print(1)", probe.orders.print(1), 1);
    Probe.due("a shorter print leaves nothing of the longer one", probe.orders.at(0) + " " + probe.orders.at(1), "42 -1");
  }

  private static void at() {
    Probe.sentence("Promise 13: A sign of what was printed; - 1 if there is none such");
    Probe probe = new Probe(1);
    for (int i : new int[] {0, 1, -1, Integer.MAX_VALUE, Integer.MIN_VALUE}) {
      Probe.due("at(" + i + ") before anything is printed", probe.orders.at(i), -1);
    }
    probe.range("1||2");
    Probe.due("at(0) before a set is printed", probe.orders.at(0), -1);
    probe.orders.print(0);
    String want = "=1 || =2";
    for (int i = 0; i < want.length(); i++) {
      Probe.due("at(" + i + ")", probe.orders.at(i), (int) want.charAt(i));
    }
    for (int i : new int[] {8, 9, 15, 16, 17, 200, 1000, -1, -2, -1000, Integer.MAX_VALUE, Integer.MIN_VALUE}) {
      Probe.due("at(" + i + ")", probe.orders.at(i), -1);
    }
  }
}
