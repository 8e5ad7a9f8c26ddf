/** The Terms SIGNS and CAN'T STAND, sentence by sentence. */
public final class SignsEdgeTest {
  private static final String[] VERSION = {"10.20.30-rc.1+b.c", "1:1.0~rc1-2", "2024.02.29.10"};
  private static final String[] RANGE = {">=1.2.3-rc <2 || ^4.x || 6 - 7.1", ">=1.0~ <2:3-4 || 5 - 6", "2024.01.01 - 2024.02.29 || >2025.01.01.7"};

  public static void main(String[] args) {
    collected();
    dropped();
    droppedOfRanges();
    usedUp();
    usedUpWhenFull();
    kept();
    nowhere();
    firstSign();
    endTooEarly();
    noSigns();
    Probe.end();
  }

  private static void collected() {
    Probe.sentence("Promise 2: A sign is collected");
    Probe probe = new Probe(0);
    probe.signs("1.2.3");
    Probe.due("read of what was collected", probe.orders.read(), 0);
    Probe.due("its parts", probe.part(0, 0) + probe.part(0, 1) + probe.part(0, 2), "123");
  }

  private static void dropped() {
    Probe.sentence("SIGNS are collected, at most 200 (more are dropped): of versions");
    String[] begins = {"1.2.", "1.2-", "2024.02.29."};
    for (int order = 0; order <= 2; order++) {
      String most = begins[order] + "7".repeat(200 - begins[order].length());
      String fewer = most.substring(0, 199);
      Probe probe = new Probe(order);
      Probe.due("199 signs", probe.read(fewer), 0);
      Probe.due("200 signs", probe.read(most), 1);
      Probe.due("the 200th sign counts", probe.orders.compare(0, 1), -1);
      Probe more = new Probe(order);
      Probe.due("201 signs", more.read(most + "7"), 0);
      Probe.due("the next signs are new ones", more.read(most.substring(0, begins[order].length() - 1)), order == 0 ? -4 : 1);
      Probe same = new Probe(order);
      same.read(most + "7");
      Probe.due("200 of them again", same.read(most), 1);
      Probe.due("the 201st doesn't count", same.orders.compare(0, 1), 0);
      Probe.due("a wrong 201st", new Probe(order).read(most + "$"), 0);
      Probe.due("a wrong 200th", new Probe(order).read(fewer + "$7"), -200);
      Probe.due("300 signs", new Probe(order).read(most + "$".repeat(100)), 0);
    }
    Probe.due("200 signs that aren't enough, with a 201st", new Probe(0).read("1.2.3-" + "a".repeat(193) + ".b"), -201);
    Probe.due("200 signs that aren't enough, with a 201st", new Probe(1).read("1." + "0".repeat(197) + "-1"), -201);
  }

  private static void droppedOfRanges() {
    Probe.sentence("SIGNS are collected, at most 200 (more are dropped): of ranges");
    Probe.due("200 signs", new Probe(0).range("1" + " ".repeat(199)), 0);
    Probe.due("a wrong 200th", new Probe(0).range("1" + " ".repeat(198) + "$"), -200);
    Probe.due("a wrong 201st", new Probe(0).range("1" + " ".repeat(199) + "$"), 0);
    Probe.due("a TERM that is dropped", new Probe(0).shown("1" + " ".repeat(199) + "!"), ">=1.0.0 <2.0.0-0");
    Probe.due("a TERM whose last digit is dropped", new Probe(0).shown("<1.0." + "7".repeat(196)), "<1.0." + "7".repeat(195));
    Probe.due("200 signs that aren't enough", new Probe(1).range("1" + " ".repeat(197) + "||2"), -201);
  }

  private static void usedUp() {
    Probe.sentence("read() and range() use them up, in any case");
    for (int order = 0; order <= 2; order++) {
      Probe probe = new Probe(order);
      Probe.due("read that stands", probe.read(VERSION[order]), 0);
      Probe.due("nothing is left of it for read", probe.orders.read(), -1);
      Probe.due("range that stands", probe.range(RANGE[order]), 0);
      Probe.due("nothing is left of it for range", probe.orders.range(), -1);
      Probe.due("read that fails", probe.read("2024$"), -5);
      Probe.due("nothing is left of it for range", probe.orders.range(), -1);
      Probe.due("range that fails", probe.range("* $"), -3);
      Probe.due("nothing is left of it for read", probe.orders.read(), -1);
      Probe.due("read that ends too early", probe.read(""), -1);
      Probe.due("a failed call leaves the place at 0", probe.read(VERSION[order]), 1);
      Probe.due("and for a range too", probe.range(RANGE[order]), 1);
    }
  }

  private static void usedUpWhenFull() {
    Probe.sentence("read() and range() use them up, in any case: where -1000 is answered, too");
    Probe spans = new Probe(1);
    Probe.due("a range of 41 spans", spans.range(Ask.points(0, 41)), -1000);
    Probe.due("its signs are gone", spans.orders.range(), -1);
    Probe.due("the next range is read from its beginning", spans.shown("7"), "=7");
    Probe sets = new Probe(0);
    sets.range("*");
    for (int i = 1; i < 200; i++) {
      sets.orders.not(0);
    }
    Probe.due("a range when there are 200 sets", sets.range("1.2.3"), -1000);
    Probe.due("its signs are gone", sets.orders.read(), -1);
    Probe.due("new signs", sets.read("1.2.3"), 0);
  }

  private static void kept() {
    Probe.sentence("only read() and range() use SIGNS up");
    Probe probe = new Probe(0);
    probe.read("1.2.3");
    probe.range("*");
    probe.signs("4.5");
    probe.part(0, 0);
    probe.part(0, 9);
    probe.part(9, 0);
    probe.orders.compare(0, 0);
    probe.orders.in(0, 0);
    probe.orders.both(0, 0);
    probe.orders.not(0);
    probe.orders.empty(0);
    probe.orders.next(0, 0);
    probe.orders.print(0);
    probe.orders.at(0);
    Probe.due("signs before and behind other calls", probe.read(".6"), 1);
    Probe.due("their parts", probe.part(1, 0) + probe.part(1, 1) + probe.part(1, 2), "456");
  }

  /** The prefix before each place can go on, so a sign that stands nowhere fails just there. */
  private static void nowhere() {
    Probe.sentence("A sign that isn't 32 .. 126 can stand nowhere");
    for (int order = 0; order <= 2; order++) {
      for (int place = 0; place <= VERSION[order].length(); place++) {
        for (int c : strange(VERSION[order], place)) {
          Probe probe = replaced(order, VERSION[order], place, c);
          Probe.due("order " + order + ": read " + VERSION[order] + " with " + c + " at " + place, probe.orders.read(), -1 - place);
        }
      }
      for (int place = 0; place <= RANGE[order].length(); place++) {
        for (int c : strange(RANGE[order], place)) {
          Probe probe = replaced(order, RANGE[order], place, c);
          Probe.due("order " + order + ": range " + RANGE[order] + " with " + c + " at " + place, probe.orders.range(), -1 - place);
        }
      }
    }
  }

  /** Some are the sign that would be right there, but for bits that a char or a byte has no room for. */
  private static int[] strange(String text, int place) {
    int right = place < text.length() ? text.charAt(place) : ' ';
    return new int[] {31, 127, 0, -1, 9, 10, 128, 160, 255, right + 128, right + 256, right + 65536, right - 65536, right - 256, ~right,
      -right, Integer.MAX_VALUE, Integer.MIN_VALUE, Integer.MIN_VALUE + right};
  }

  private static Probe replaced(int order, String text, int place, int c) {
    Probe probe = new Probe(order);
    probe.signs(text.substring(0, place));
    probe.orders.sign(c);
    probe.signs(text.substring(Math.min(place + 1, text.length())));
    return probe;
  }

  private static void firstSign() {
    Probe.sentence("What CAN'T STAND is told as - 1 less its place (from 0): the first sign that should not be there");
    Ask.fails(0, "$.$.$", 0);
    Ask.fails(0, "1$2$3", 1);
    Ask.fails(0, "1.2.3-a$+$", 7);
    Ask.fails(0, "01.02.03", 1);
    Ask.fails(0, "1.2.3-01.02", 6);
    Ask.fails(1, "1:2:3:4", 3);
    Ask.fails(1, "1_2_3", 1);
    Ask.fails(2, "2024.13.32", 5);
    Ask.fails(2, "2024.02.30.01", 8);
    Ask.fails(2, "2024-13-32", 4);
    Ask.rangeFails(0, "1 $ $", 2);
    Ask.rangeFails(0, "1 | 2 | 3", 3);
    Ask.rangeFails(0, "> 1 || > 2", 1);
    Ask.rangeFails(1, "1: || 2:", 2);
    Ask.rangeFails(2, "2024.13.01 || 2024.14.01", 5);
  }

  private static void endTooEarly() {
    Probe.sentence("or how many signs there are if they end too early");
    beginnings(0, "10.20.30-rc.1+b.c", 7, 8, 10, 11, 13, 15, 17);
    beginnings(1, "10:1.0-2-3", 1, 2, 4, 5, 6, 8, 10);
    beginnings(2, "2024.02.29.10", 10, 12, 13);
    rangeBeginnings(0, "^1.2.x || 3 - 4.*.* ", 2, 4, 6, 7, 11, 12, 15, 17, 19, 20);
    rangeBeginnings(0, "<=1.2.3-a+b >", 3, 5, 7, 9, 11, 12);
    rangeBeginnings(1, ">=1.0 * || 2 - 3", 3, 4, 5, 6, 7, 8, 12, 13, 16);
    Ask.rangeFails(0, ">", 1);
    Ask.rangeFails(0, ">=", 2);
    Ask.rangeFails(1, "1-", 2);
    Ask.rangeFails(2, "2024.01.01 - 2024.01", 20);
  }

  /** Of a version's beginnings those of these lengths stand, all others end too early. */
  private static void beginnings(int order, String text, int... standing) {
    for (int length = 0; length <= text.length(); length++) {
      String begin = text.substring(0, length);
      Probe.due("order " + order + ": read " + begin, new Probe(order).read(begin), holds(standing, length) ? 0 : -1 - length);
    }
  }

  private static void rangeBeginnings(int order, String text, int... standing) {
    for (int length = 0; length <= text.length(); length++) {
      String begin = text.substring(0, length);
      Probe.due("order " + order + ": range " + begin, new Probe(order).range(begin), holds(standing, length) ? 0 : -1 - length);
    }
  }

  private static boolean holds(int[] row, int one) {
    for (int each : row) {
      if (each == one) {
        return true;
      }
    }
    return false;
  }

  private static void noSigns() {
    Probe.sentence("no signs at all end too early, too: -1");
    for (int order = 0; order <= 2; order++) {
      Probe probe = new Probe(order);
      Probe.due("read of no signs", probe.orders.read(), -1);
      Probe.due("range of no signs", probe.orders.range(), -1);
      Probe.due("read of no signs, again", probe.orders.read(), -1);
      Probe.due("no version came of it", probe.orders.compare(0, 0), -1000);
      Probe.due("no set came of it", probe.orders.print(0), -1000);
    }
  }
}
