/** At most 300 VERSIONS and 200 SETS, numbered from 0, of at most 40 spans; and numbers that are none of them. */
public final class LimitsEdgeTest {
  public static void main(String[] args) {
    numberedFromZero();
    mostVersions();
    versionsWhenFull();
    mostSetsByRange();
    mostSetsByBoth();
    mostSetsByNot();
    setsWhenFull();
    mostSpansByRange();
    mostSpansByBoth();
    mostSpansByNot();
    noNumberIsLost();
    noSuchVersion();
    noSuchSet();
    Probe.end();
  }

  private static void numberedFromZero() {
    Probe.sentence("VERSIONS and SETS, numbered from 0");
    for (int order = 0; order <= 2; order++) {
      String text = order == 2 ? "2024.01.01" : "1.0.0";
      Probe probe = new Probe(order);
      Probe.due("the first version", probe.read(text), 0);
      Probe.due("the first set", probe.range(text), 0);
      Probe.due("a like version has its own number", probe.read(text), 1);
      Probe.due("a like set has its own number", probe.range(text), 1);
      Probe.due("no version", probe.read("$"), -1);
      Probe.due("no set", probe.range("$"), -1);
      Probe.due("the next version", probe.read(text), 2);
      Probe.due("the next set", probe.orders.not(1), 2);
      Probe.due("the set behind it", probe.orders.both(0, 2), 3);
    }
  }

  /** 300 versions take more than the 512 calls that the document speaks of: the class keeps its limit beyond them. */
  private static Probe with300() {
    Probe probe = new Probe(1);
    for (int i = 0; i < 300; i++) {
      Probe.due("version " + i, probe.read(String.valueOf(i % 10)), i);
    }
    return probe;
  }

  private static void mostVersions() {
    Probe.sentence("There are at most 300 VERSIONS; - 1000 is answered where there would be more");
    Probe probe = with300();
    Probe.due("version 300", probe.read("7"), -1000);
    Probe.due("version 300, again", probe.read("1:2-3"), -1000);
    Probe.due("version 300 is none", probe.orders.compare(300, 0), -1000);
    Probe.due("version 299 is one", probe.orders.compare(299, 9), 0);
    Probe.due("its part", probe.part(299, 0), "0");
    Probe.due("version 300 has no part", probe.part(300, 0), "-1000");
  }

  private static void versionsWhenFull() {
    Probe.sentence("- 1000 is answered where there would be more: what can't stand would be none");
    Probe probe = with300();
    Probe.due("what can't stand", probe.read("7$"), -2);
    Probe.due("no signs", probe.orders.read(), -1);
    Probe.due("one more", probe.read("7"), -1000);
    Probe.due("its signs are used up", probe.orders.read(), -1);
    Probe.due("a range still stands", probe.range(">=8"), 0);
    Probe.due("the last version is in it", probe.orders.in(0, 299), true);
    Probe.due("the next one in it", probe.orders.next(0, 7), 8);
    Probe.due("version 300 isn't in it", probe.orders.in(0, 300), false);
    Probe.due("nothing is next of version 300", probe.orders.next(0, 300), -1000);
  }

  private static void mostSetsByRange() {
    Probe.sentence("There are at most 200 SETS; - 1000 is answered where there would be more: range");
    Probe probe = new Probe(2);
    for (int i = 0; i < 200; i++) {
      Probe.due("set " + i, probe.range(i % 2 == 0 ? "*" : "!"), i);
    }
    Probe.due("set 200", probe.range("*"), -1000);
    Probe.due("set 199 is one", probe.orders.empty(199), true);
    Probe.due("set 200 is none", probe.orders.empty(200), false);
    Probe.due("set 200 isn't printed", probe.orders.print(200), -1000);
  }

  private static void mostSetsByBoth() {
    Probe.sentence("There are at most 200 SETS; - 1000 is answered where there would be more: both");
    Probe probe = new Probe(0);
    probe.range("1");
    for (int i = 1; i < 200; i++) {
      Probe.due("set " + i, probe.orders.both(i - 1, 0), i);
    }
    Probe.due("set 200", probe.orders.both(199, 199), -1000);
    Probe.due("set 199 is one", probe.printed(199), ">=1.0.0 <2.0.0-0");
    Probe.due("set 200 is none", probe.orders.print(200), -1000);
  }

  private static void mostSetsByNot() {
    Probe.sentence("There are at most 200 SETS; - 1000 is answered where there would be more: not");
    Probe probe = new Probe(1);
    probe.range("!");
    for (int i = 1; i < 200; i++) {
      Probe.due("set " + i, probe.orders.not(i - 1), i);
    }
    Probe.due("set 200", probe.orders.not(199), -1000);
    Probe.due("set 199 is one", probe.printed(199), "*");
    Probe.due("set 200 is none", probe.orders.print(200), -1000);
  }

  private static void setsWhenFull() {
    Probe.sentence("- 1000 is answered where there would be more: what can't stand would be none, all else is as before");
    Probe probe = new Probe(0);
    probe.range("1.2.3");
    for (int i = 1; i < 200; i++) {
      probe.orders.not(i - 1);
    }
    Probe.due("what can't stand", probe.range("1.2.3 $"), -7);
    Probe.due("no signs", probe.orders.range(), -1);
    Probe.due("one more", probe.range("!"), -1000);
    Probe.due("its signs are used up", probe.orders.range(), -1);
    Probe.due("both", probe.orders.both(0, 1), -1000);
    Probe.due("not", probe.orders.not(0), -1000);
    Probe.due("a version still stands", probe.read("1.2.3"), 0);
    Probe.due("it is in set 0", probe.orders.in(0, 0), true);
    Probe.due("it isn't in set 199", probe.orders.in(199, 0), false);
    Probe.due("the sets stay", probe.printed(0) + " " + probe.printed(199), "=1.2.3 <1.2.3 || >1.2.3");
  }

  private static void mostSpansByRange() {
    Probe.sentence("SETS of at most 40 spans; - 1000 is answered where there would be more: range");
    Probe.due("39 spans", new Probe(1).range(Ask.points(0, 39)), 0);
    Probe.due("40 spans", new Probe(1).range(Ask.points(0, 40)), 0);
    Probe.due("41 spans", new Probe(1).range(Ask.points(0, 41)), -1000);
    Probe.due("40 spans, printed", new Probe(1).shown(Ask.points(0, 40)), "=" + Ask.points(0, 40).replace("||", " || ="));
    Probe.due("41 ROWS of 40 spans", new Probe(1).range(Ask.points(0, 40) + "||7"), 0);
    Probe.due("41 ROWS, one of them empty", new Probe(1).range(Ask.points(0, 40) + "||1 2"), 0);
    Probe.due("42 ROWS that are all", new Probe(1).shown(Ask.points(0, 41) + "||*"), "*");
    Probe.due("41 spans of PARTIAL versions", new Probe(0).range(Ask.points(0, 41)), -1000);
    Probe.due("40 spans of PARTIAL versions", new Probe(0).range(Ask.points(0, 40)), 0);
    String wrong = Ask.points(0, 41) + "||$";
    Probe.due("41 ROWS and what can't stand", new Probe(1).range(wrong), -wrong.length());
  }

  /** What isn't any of some points has one span more than there are points. */
  private static void mostSpansByBoth() {
    Probe.sentence("SETS of at most 40 spans; - 1000 is answered where there would be more: both");
    Probe probe = new Probe(1);
    probe.range(Ask.points(0, 20));
    probe.range(Ask.points(20, 39));
    probe.range(Ask.points(20, 40));
    probe.orders.not(0);
    probe.orders.not(1);
    probe.orders.not(2);
    Probe.due("40 spans", probe.orders.both(3, 4), 6);
    Probe.due("41 spans", probe.orders.both(3, 5), -1000);
    Probe.due("41 spans, the other way", probe.orders.both(5, 3), -1000);
    Probe.due("40 spans with themselves", probe.orders.both(6, 6), 7);
    Probe.due("40 spans, the other way", probe.orders.both(4, 3), 8);
    Probe.due("they are what neither is", probe.orders.not(8), 9);
    Probe.due("printed", probe.orders.print(9), ("=" + Ask.points(0, 39).replace("||", " || =")).length());
  }

  private static void mostSpansByNot() {
    Probe.sentence("SETS of at most 40 spans; - 1000 is answered where there would be more: not");
    turned("40 gaps about 39 spans", Ask.points(0, 39), 1);
    turned("41 gaps about 40 spans", Ask.points(0, 40), -1000);
    turned("40 gaps behind 40 spans", "<0||" + Ask.points(1, 40), 1);
    turned("40 gaps before 40 spans", Ask.points(0, 39) + "||>39", 1);
    turned("39 gaps between 40 spans", "<0||" + Ask.points(1, 39) + "||>39", 1);
  }

  private static void turned(String call, String range, int want) {
    Probe probe = new Probe(1);
    Probe.due("the range", probe.range(range), 0);
    Probe.due(call, probe.orders.not(0), want);
    Probe.due("the next set", probe.range("*"), Math.max(want, 0) + 1);
  }

  private static void noNumberIsLost() {
    Probe.sentence("- 1000 is answered: then no number is used");
    Probe probe = new Probe(1);
    probe.range(Ask.points(0, 40));
    Probe.due("not of 40 spans", probe.orders.not(0), -1000);
    Probe.due("not of none", probe.orders.not(1), -1000);
    Probe.due("both with none", probe.orders.both(0, 1), -1000);
    Probe.due("41 spans", probe.range(Ask.points(0, 41)), -1000);
    Probe.due("the next set", probe.range("7"), 1);
    Probe.due("printed", probe.printed(1), "=7");
  }

  private static void noSuchVersion() {
    Probe.sentence("- 1000 is answered where a number is none of them: versions");
    Probe probe = new Probe(0);
    probe.read("1.2.3");
    probe.read("1.2.4");
    probe.range("*");
    Probe.due("version 1 is one", probe.orders.compare(0, 1), -1);
    noVersion(probe, 2);
    for (int none : Ask.NONE_SUCH) {
      noVersion(probe, none);
    }
  }

  private static void noVersion(Probe probe, int none) {
    Probe.due("part(" + none + ", 0)", probe.part(none, 0), "-1000");
    Probe.due("part(" + none + ", -1)", probe.part(none, -1), "-1000");
    Probe.due("compare(0, " + none + ")", probe.orders.compare(0, none), -1000);
    Probe.due("compare(" + none + ", 0)", probe.orders.compare(none, 0), -1000);
    Probe.due("compare(" + none + ", " + none + ")", probe.orders.compare(none, none), -1000);
    Probe.due("in(0, " + none + ")", probe.orders.in(0, none), false);
    Probe.due("next(0, " + none + ")", probe.orders.next(0, none), -1000);
  }

  private static void noSuchSet() {
    Probe.sentence("- 1000 is answered where a number is none of them: sets");
    Probe probe = new Probe(0);
    probe.read("1.2.3");
    probe.range("*");
    probe.range("!");
    noSet(probe, 2);
    for (int none : Ask.NONE_SUCH) {
      noSet(probe, none);
    }
    Probe.due("none of them made a set", probe.orders.not(1), 2);
  }

  private static void noSet(Probe probe, int none) {
    Probe.due("in(" + none + ", 0)", probe.orders.in(none, 0), false);
    Probe.due("both(0, " + none + ")", probe.orders.both(0, none), -1000);
    Probe.due("both(" + none + ", 0)", probe.orders.both(none, 0), -1000);
    Probe.due("both(" + none + ", " + none + ")", probe.orders.both(none, none), -1000);
    Probe.due("not(" + none + ")", probe.orders.not(none), -1000);
    Probe.due("empty(" + none + ")", probe.orders.empty(none), false);
    Probe.due("next(" + none + ", 0)", probe.orders.next(none, 0), -1000);
    Probe.due("next(" + none + ", " + none + ")", probe.orders.next(none, none), -1000);
    Probe.due("print(" + none + ")", probe.orders.print(none), -1000);
  }
}
