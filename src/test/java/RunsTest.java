/**
 * Runs of many calls on one object, 512 at most: what a call leaves behind, or leaves alone, is shown by
 * the calls behind it.
 */
public final class RunsTest {
  public static void main(String[] args) {
    versionsStay();
    setsStay();
    allSetsStay();
    signsGatherAcrossCalls();
    signsAreGone();
    printedStays();
    printedIsReplaced();
    printedDoesNotChangeWithSets();
    laterVersionsAreAsked();
    setsOfSets();
    failuresLeaveAll();
    objectsAreApart();
    lastCall();
    Probe.end();
  }

  /** 100 versions in 2 x 100 calls, with a read that fails behind each tenth. */
  private static void versionsStay() {
    Probe.sentence("versions that were read before stay as they are");
    Probe probe = new Probe(1);
    for (int i = 0; i < 100; i++) {
      Probe.due("version " + i, probe.read(String.valueOf(9 - i % 10)), i);
      if (i % 10 == 9) {
        Probe.due("no version", probe.read("a"), -1);
      }
    }
    for (int i = 1; i < 100; i++) {
      Probe.due("compare(" + (i - 1) + ", " + i + ")", probe.orders.compare(i - 1, i), i % 10 == 0 ? -1 : 1);
    }
    for (int i = 10; i < 100; i++) {
      Probe.due("compare(" + i + ", " + (i - 10) + ")", probe.orders.compare(i, i - 10), 0);
    }
    Probe.due("compare(0, 100)", probe.orders.compare(0, 100), -1000);
    Probe parts = new Probe(0);
    String[] texts = {"1.2.3-rc.4+b", "5.6.7", "8.9.10-a.b.c.11", "12.13.14-0"};
    for (String text : texts) {
      parts.read(text);
    }
    Probe.due("the parts of the first one", parts.part(0, 2) + parts.part(0, 3) + parts.part(0, 4), "3-24");
    Probe.due("no more", parts.part(0, 5), Probe.THROWS);
    Probe.due("the parts of the second one", parts.part(1, 0) + parts.part(1, 1) + parts.part(1, 2), "567");
    Probe.due("no more", parts.part(1, 3), Probe.THROWS);
    Probe.due("the last part of the third one", parts.part(2, 6), "11");
    Probe.due("the last part of the fourth one", parts.part(3, 3), "0");
  }

  private static void setsStay() {
    Probe.sentence("sets that were made before stay as they are");
    Probe probe = new Probe(0);
    String[] ranges = {"1.2.3", "^1.2", ">=1.0.0 <2.0.0", "!", "*"};
    String[] printed = {"=1.2.3", ">=1.2.0 <2.0.0-0", ">=1.0.0 <2.0.0", "!", "*"};
    for (String range : ranges) {
      probe.range(range);
    }
    for (int i = 0; i < 5; i++) {
      for (int k = 0; k < 5; k++) {
        Probe.due("both(" + i + ", " + k + ")", probe.orders.both(i, k), 5 + 6 * i + k);
      }
      Probe.due("not(" + i + ")", probe.orders.not(i), 10 + 6 * i);
    }
    probe.range("1.2.3 $");
    probe.read("1.2.3");
    probe.orders.next(1, 0);
    for (int i = 0; i < 5; i++) {
      Probe.due("set " + i, probe.printed(i), printed[i]);
      Probe.due("both(" + i + ", " + i + ")", probe.printed(5 + 7 * i), printed[i]);
    }
    Probe.due("not(1)", probe.printed(16), "<1.2.0 || >=2.0.0-0");
    Probe.due("not(3)", probe.printed(28), "*");
    Probe.due("not(4)", probe.printed(34), "!");
  }

  /** Each set from the sixth on is what the fifth before it isn't. */
  private static void allSetsStay() {
    Probe.sentence("200 sets stay as they are");
    Probe probe = new Probe(1);
    String[] ranges = {"1", "<4", "!", "2||3", ">=5"};
    String[] printed = {"=1", "<4", "!", "=2 || =3", ">=5", "<1 || >1", ">=4", "*", "<2 || >2 <3 || >3", "<5"};
    for (String range : ranges) {
      probe.range(range);
    }
    for (int i = 5; i < 200; i++) {
      Probe.due("not(" + (i - 5) + ")", probe.orders.not(i - 5), i);
    }
    for (int i = 0; i < 200; i++) {
      String want = printed[i % 10];
      Probe.due("print(" + i + ")", probe.orders.print(i), want.length());
      if (i % 29 == 0) {
        Probe.due("set " + i, shown(probe), want);
      }
    }
  }

  /** Between the signs of one text every other call comes once, also those that answer - 1000. */
  private static void signsGatherAcrossCalls() {
    Probe.sentence("signs gather over calls that don't use them up");
    Probe probe = new Probe(0);
    probe.read("1.0.0");
    probe.range("*");
    String text = "10.20.30-rc.1";
    for (int i = 0; i < text.length(); i++) {
      probe.orders.sign(text.charAt(i));
      other(probe, i);
    }
    Probe.due("the version", probe.orders.read(), 1);
    Probe.due("its parts", probe.part(1, 0) + " " + probe.part(1, 1) + " " + probe.part(1, 2) + " " + probe.part(1, 3) + " " + probe.part(1, 4),
        "10 20 30 -2 1");
    String range = ">=1.2.3 <2 || 5";
    for (int i = 0; i < range.length(); i++) {
      probe.orders.sign(range.charAt(i));
      other(probe, i);
    }
    int set = probe.orders.range();
    Probe.due("the range", probe.printed(set), ">=1.2.3 <2.0.0-0 || >=5.0.0 <6.0.0-0");
  }

  private static void other(Probe probe, int which) {
    VersionOrders orders = probe.orders;
    switch (which % 11) {
      case 0:
        probe.part(0, 0);
        break;
      case 1:
        probe.part(0, 7);
        break;
      case 2:
        orders.compare(0, 7);
        break;
      case 3:
        orders.in(0, 0);
        break;
      case 4:
        orders.both(0, 0);
        break;
      case 5:
        orders.not(-1);
        break;
      case 6:
        orders.not(0);
        break;
      case 7:
        orders.empty(0);
        break;
      case 8:
        orders.next(0, 0);
        break;
      case 9:
        orders.print(0);
        break;
      default:
        orders.at(0);
        break;
    }
  }

  private static void signsAreGone() {
    Probe.sentence("signs that were used up are gone, whoever used them and however they ended");
    Probe probe = new Probe(0);
    String[] versions = {"1.2.3", "1.2", "1.2.3 ", "", "1.2.3-01", "4.5.6-a"};
    String[] ranges = {"1.2", "1.2 <", "!!", "", "1 - ", "^4"};
    int[] read = {0, -4, -6, -1, -7, 1};
    int[] made = {0, -6, -2, -1, -5, 1};
    for (int i = 0; i < versions.length; i++) {
      Probe.due("read " + versions[i], probe.read(versions[i]), read[i]);
      Probe.due("range of nothing", probe.orders.range(), -1);
      Probe.due("range " + ranges[i], probe.range(ranges[i]), made[i]);
      Probe.due("read of nothing", probe.orders.read(), -1);
    }
    Probe.due("a text that is a range, read", probe.read("^1"), -1);
    Probe.due("a text that is a version, as a range", probe.range("7.8.9+b"), 2);
    Probe.due("what came of it", probe.printed(2), "=7.8.9");
    Probe.due("more than 200 signs", probe.read("1.2." + "3".repeat(196) + "$$"), 2);
    Probe.due("the next text has its 200 again", probe.range("1" + " ".repeat(198) + "$"), -200);
  }

  private static void printedStays() {
    Probe.sentence("what was printed stays until print() answers how many signs");
    Probe probe = new Probe(0);
    probe.range(">1.2.3 <=4.5.6");
    probe.range("!");
    probe.read("2.0.0");
    String want = ">1.2.3 <=4.5.6";
    Probe.due("print(0)", probe.orders.print(0), want.length());
    for (int which = 0; which < 9; which++) {
      other(probe, which);
      Probe.due("behind call " + which, shown(probe), want);
    }
    probe.signs("3.0.0");
    Probe.due("behind signs", shown(probe), want);
    probe.orders.read();
    Probe.due("behind read", shown(probe), want);
    probe.range("<1.0.0");
    Probe.due("behind range", shown(probe), want);
    probe.range("<1.0.0 $");
    Probe.due("behind a range that fails", shown(probe), want);
    probe.orders.print(77);
    Probe.due("behind a print that fails", shown(probe), want);
    probe.orders.print(-1);
    Probe.due("behind another one", shown(probe), want);
  }

  /** All that at() answers, up to the first - 1. */
  private static String shown(Probe probe) {
    StringBuilder text = new StringBuilder();
    for (int i = 0; probe.orders.at(i) >= 0; i++) {
      text.append((char) probe.orders.at(i));
    }
    return text.toString();
  }

  private static void printedIsReplaced() {
    Probe.sentence("a print leaves nothing of the one before");
    Probe probe = new Probe(1);
    String[] printed = {"*", ">=1.0~ <2:3-4", "!", "=1", "<1 || >1", "=1"};
    for (String range : printed) {
      probe.range(range);
    }
    for (int i = 0; i < printed.length; i++) {
      Probe.due("print(" + i + ")", probe.orders.print(i), printed[i].length());
      Probe.due("its signs", shown(probe), printed[i]);
    }
    Probe.due("print(1), again", probe.orders.print(1), 13);
    Probe.due("its signs", shown(probe), printed[1]);
    Probe.due("print(1), once more", probe.orders.print(1), 13);
    Probe.due("its signs", shown(probe), printed[1]);
  }

  private static void printedDoesNotChangeWithSets() {
    Probe.sentence("what was printed, read again, is the same set; the printed text stays");
    Probe probe = new Probe(2);
    probe.read("2024.02.29");
    probe.read("2024.03.01.5");
    probe.range("2024.01.01 - 2024.02.29.0 || >2024.03.01");
    String text = probe.printed(0);
    Probe.due("printed", text, ">=2024.01.01 <=2024.02.29.0 || >2024.03.01");
    Probe.due("read again", probe.range(text), 1);
    Probe.due("the printed text", shown(probe), text);
    Probe.due("what it is not", probe.orders.not(1), 2);
    Probe.due("in both", probe.orders.both(0, 2), 3);
    Probe.due("nothing", probe.orders.empty(3), true);
    Probe.due("in neither of the turned ones", probe.members(2, 2), "");
    Probe.due("in both of the others", probe.members(0, 2) + ", " + probe.members(1, 2), "0 1, 0 1");
    Probe.due("the printed text, still", shown(probe), text);
  }

  private static void laterVersionsAreAsked() {
    Probe.sentence("next() and in() see versions that are read behind the set");
    Probe probe = new Probe(0);
    probe.range(">=1.0.0-b <3.0.0");
    probe.read("1.0.0");
    Probe.due("nothing greater yet", probe.orders.next(0, 0), -1);
    probe.read("2.9.9");
    Probe.due("the new one", probe.orders.next(0, 0), 1);
    probe.read("3.0.0");
    Probe.due("one beyond the set changes nothing", probe.orders.next(0, 0), 1);
    probe.read("2.0.0");
    Probe.due("a lesser one", probe.orders.next(0, 0), 3);
    probe.read("1.0.1-a");
    Probe.due("one with MARKS that the set lets not in", probe.orders.next(0, 0), 3);
    probe.read("2.0.0+b");
    Probe.due("a like one behind it", probe.orders.next(0, 0), 3);
    probe.read("0.0.1");
    Probe.due("behind one below the set", probe.orders.next(0, 6), 0);
    probe.read("1.0.0-c");
    Probe.due("one with the MARKS of its beginning", probe.orders.next(0, 6), 7);
    probe.read("1.0.0-a");
    Probe.due("one below its beginning", probe.orders.next(0, 6), 7);
    Probe.due("all that are in it", probe.members(0, 9), "0 1 3 5 7");
  }

  private static void setsOfSets() {
    Probe.sentence("sets are made of sets that were made of sets");
    Probe probe = new Probe(1);
    probe.range("1 - 9");
    probe.range("3 - 5");
    probe.orders.not(1);
    Probe.due("both(0, 2)", probe.orders.both(0, 2), 3);
    Probe.due("printed", probe.printed(3), ">=1 <3 || >5 <=9");
    Probe.due("not(3)", probe.orders.not(3), 4);
    Probe.due("printed", probe.printed(4), "<1 || >=3 <=5 || >9");
    Probe.due("both(4, 0)", probe.orders.both(4, 0), 5);
    Probe.due("printed", probe.printed(5), ">=3 <=5");
    Probe.due("both(5, 3)", probe.orders.both(5, 3), 6);
    Probe.due("empty(6)", probe.orders.empty(6), true);
    Probe.due("not(6)", probe.orders.not(6), 7);
    Probe.due("printed", probe.printed(7), "*");
    Probe.due("both(7, 4)", probe.orders.both(7, 4), 8);
    Probe.due("printed", probe.printed(8), "<1 || >=3 <=5 || >9");
    probe.range("03.0");
    Probe.due("of like ones the first set's stay", probe.orders.both(9, 5), 10);
    Probe.due("printed", probe.printed(10), "=03.0");
    probe.range("9:0");
    Probe.due("the sets before", probe.printed(3) + ", " + probe.printed(5), ">=1 <3 || >5 <=9, >=3 <=5");
  }

  private static void failuresLeaveAll() {
    Probe.sentence("calls that answer - 1000, false, or what can't stand change nothing but the signs");
    Probe probe = new Probe(1);
    probe.read("1");
    probe.read("2");
    probe.range(Ask.points(0, 40));
    probe.range("7");
    probe.orders.print(1);
    for (int none : new int[] {2, -1, 300, Integer.MIN_VALUE}) {
      Probe.due("compare(0, " + none + ")", probe.orders.compare(0, none), -1000);
      Probe.due("part(" + none + ", 0)", probe.part(none, 0), "-1000");
      Probe.due("part(0, " + none + ")", probe.part(0, none), Probe.THROWS);
      Probe.due("in(" + none + ", 0)", probe.orders.in(none, 0), false);
      Probe.due("both(0, " + none + ")", probe.orders.both(0, none), -1000);
      Probe.due("not(" + none + ")", probe.orders.not(none), -1000);
      Probe.due("not(0), of 41 spans", probe.orders.not(0), -1000);
      Probe.due("next(" + none + ", 0)", probe.orders.next(none, 0), -1000);
      Probe.due("print(" + none + ")", probe.orders.print(none), -1000);
      Probe.due("read 1:", probe.read("1:"), -3);
      Probe.due("range >", probe.range(">"), -2);
    }
    Probe.due("what was printed", shown(probe), "=7");
    Probe.due("the next version", probe.read("3"), 2);
    Probe.due("the next set", probe.range("3"), 2);
    Probe.due("the versions", probe.orders.compare(0, 1) + " " + probe.orders.compare(1, 2), "-1 -1");
    Probe.due("the sets", probe.members(0, 3) + ", " + probe.members(1, 3) + ", " + probe.members(2, 3), "0 1 2, , 2");
  }

  private static void objectsAreApart() {
    Probe.sentence("objects that are used in turn know nothing of one another");
    Probe[] probes = {new Probe(0), new Probe(1), new Probe(2)};
    String[] texts = {"1.2.3-a", "1:2~-3", "2024.02.29"};
    for (int place = 0; place < 10; place++) {
      for (int order = 0; order <= 2; order++) {
        if (place < texts[order].length()) {
          probes[order].orders.sign(texts[order].charAt(place));
        }
      }
    }
    Probe.due("the third one's version", probes[2].orders.read(), 0);
    Probe.due("the first one's version", probes[0].orders.read(), 0);
    Probe.due("the second one's version", probes[1].orders.read(), 0);
    Probe.due("their first parts", probes[0].part(0, 0) + " " + probes[1].part(0, 0) + " " + probes[2].part(0, 0), "1 1 2024");
    for (int order = 0; order <= 2; order++) {
      Probe.due("the first set of each", probes[order].range("<=" + texts[order]), 0);
      probes[order].orders.print(0);
    }
    for (int order = 0; order <= 2; order++) {
      Probe.due("what each printed", shown(probes[order]), "<=" + texts[order]);
      Probe.due("no second version", probes[order].orders.compare(0, 1), -1000);
    }
  }

  /** Two calls make a set, 256 make versions: so the first question is call 259. */
  private static void lastCall() {
    Probe.sentence("An object is used for at most 512 calls: the last one answers like the first");
    Probe probe = new Probe(1);
    probe.orders.sign('*');
    probe.orders.range();
    for (int i = 0; i < 128; i++) {
      Probe.due("version " + i, probe.read(String.valueOf(i % 8)), i);
    }
    for (int call = 259; call < 511; call++) {
      int version = call % 128;
      int want = version % 8 == 7 ? -1 : version % 8 + 1;
      Probe.due("call " + call + ": next(0, " + version + ")", probe.orders.next(0, version), want);
    }
    Probe.due("call 511: print(0)", probe.orders.print(0), 1);
    Probe.due("call 512: at(0)", probe.orders.at(0), (int) '*');
  }
}
