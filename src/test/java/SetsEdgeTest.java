/** SETS and IN, sentence by sentence. */
public final class SetsEdgeTest {
  public static void main(String[] args) {
    spans();
    sorted();
    noneEmpty();
    noneTouch();
    noneTouchElsewhere();
    likeOfTerms();
    likeOfRows();
    likeOfSets();
    liesInSpan();
    ownNumbers();
    beginningOrEnd();
    thatSpan();
    marksOnlyInOrder0();
    Probe.end();
  }

  private static void spans() {
    Probe.sentence("SPANS: from a version (with it or not) or from all below, to a version (likewise) or all above");
    for (String range : new String[] {">=1.0.0 <=2.0.0", ">=1.0.0 <2.0.0", ">1.0.0 <=2.0.0", ">1.0.0 <2.0.0"}) {
      Ask.means(0, range, range);
      Ask.in(0, range, "0.9.9", false);
      Ask.in(0, range, "1.0.0", range.contains(">="));
      Ask.in(0, range, "1.5.0", true);
      Ask.in(0, range, "2.0.0", range.contains("<="));
      Ask.in(0, range, "2.0.1", false);
    }
    for (String range : new String[] {">=1.0.0", ">1.0.0", "<=1.0.0", "<1.0.0"}) {
      Ask.means(0, range, range);
      Ask.in(0, range, "0.0.0", range.startsWith("<"));
      Ask.in(0, range, "1.0.0", range.contains("="));
      Ask.in(0, range, "9".repeat(100) + ".0.0", range.startsWith(">"));
    }
  }

  private static void sorted() {
    Probe.sentence("sorted");
    String[] rows = {"<1.0.0", "2.0.0", ">3.0.0 <4.0.0", ">=5.0.0"};
    String want = "<1.0.0 || =2.0.0 || >3.0.0 <4.0.0 || >=5.0.0";
    for (int a = 0; a < 4; a++) {
      for (int b = 0; b < 4; b++) {
        for (int c = 0; c < 4; c++) {
          int d = 6 - a - b - c;
          if (a != b && a != c && b != c && d >= 0 && d < 4) {
            Ask.means(0, rows[a] + "||" + rows[b] + "||" + rows[c] + "||" + rows[d], want);
          }
        }
      }
    }
    Ask.means(1, "10||9||1:0||1~||1", "=1~ || =1 || =9 || =10 || =1:0");
    Ask.means(2, "2024.02.01||2024.01.31.10||2024.01.31.9", "=2024.01.31.9 || =2024.01.31.10 || =2024.02.01");
  }

  private static void noneEmpty() {
    Probe.sentence("none empty");
    for (String empty : new String[] {">1.0.0 <1.0.0", ">=1.0.0 <1.0.0", ">1.0.0 <=1.0.0", ">2.0.0 <1.0.0", ">=2.0.0 <=1.0.0", "1.0.0 2.0.0",
      "2.0.0 - 1.0.0", "1 2", ">1.0.0 <1.0.0+b"}) {
      Ask.means(0, empty, "!");
      Ask.means(0, "1.5.0 || " + empty, "=1.5.0");
      Ask.means(0, empty + " || 1.5.0", "=1.5.0");
      Ask.not(0, empty, "*");
    }
    Ask.means(0, ">=1.0.0 <=1.0.0", "=1.0.0");
    Ask.means(1, ">1.0 <1.00", "!");
    Ask.means(1, ">=1.0 <=0:1-0", "!");
    Ask.means(2, ">2024.01.01 <=2024.01.01.0", "!");
    Ask.both(0, "<1.0.0", ">1.0.0", "!");
    Ask.both(0, "<1.0.0 || >2.0.0", ">=1.0.0 <=2.0.0", "!");
    Ask.both(0, "<=1.0.0 || >=2.0.0", ">1.0.0 <2.0.0", "!");
  }

  private static void noneTouch() {
    Probe.sentence("none that touch: as few as can be");
    Ask.means(0, "<1.0.0 || >=1.0.0", "*");
    Ask.means(0, "<=1.0.0 || >1.0.0", "*");
    Ask.means(0, "<=1.0.0 || >=1.0.0", "*");
    Ask.means(0, "<1.0.0 || >1.0.0", "<1.0.0 || >1.0.0");
    Ask.means(0, "<1.0.0 || 1.0.0", "<=1.0.0");
    Ask.means(0, "1.0.0 || >1.0.0", ">=1.0.0");
    Ask.means(0, "<1.0.0 || 1.0.0 || >1.0.0", "*");
    Ask.means(0, "<1.0.0 || >1.0.0 || 1.0.0", "*");
    Ask.means(0, ">=1.0.0 <2.0.0 || >=2.0.0 <3.0.0", ">=1.0.0 <3.0.0");
    Ask.means(0, ">=2.0.0 <3.0.0 || >=1.0.0 <2.0.0", ">=1.0.0 <3.0.0");
    Ask.means(0, ">=1.0.0 <=2.0.0 || >2.0.0 <3.0.0", ">=1.0.0 <3.0.0");
    Ask.means(0, ">=1.0.0 <2.0.0 || >2.0.0 <3.0.0", ">=1.0.0 <2.0.0 || >2.0.0 <3.0.0");
    Ask.means(0, ">=1.0.0 <4.0.0 || >=2.0.0 <3.0.0", ">=1.0.0 <4.0.0");
    Ask.means(0, ">=2.0.0 <3.0.0 || >=1.0.0 <4.0.0", ">=1.0.0 <4.0.0");
    Ask.means(0, ">=1.0.0 <3.0.0 || >=2.0.0 <4.0.0", ">=1.0.0 <4.0.0");
    Ask.means(0, "1.0.0 || 3.0.0 || 5.0.0 || 7.0.0 || >=3.0.0 <=5.0.0", "=1.0.0 || >=3.0.0 <=5.0.0 || =7.0.0");
    Ask.means(0, "1.0.0 || 3.0.0 || 5.0.0 || 7.0.0 || >1.0.0 <7.0.0", ">=1.0.0 <=7.0.0");
    Ask.means(0, "1.0.0 || 3.0.0 || 5.0.0 || *", "*");
    // Between 2.0.0-0 and 2.0.0 there are versions, though none that 1 || 2 would let in.
    Ask.means(0, "1 || 2", ">=1.0.0 <2.0.0-0 || >=2.0.0 <3.0.0-0");
    Ask.means(0, "<=1 || >=2.0.0-0", "*");
    Ask.means(1, "<=1.0 || >0:1.00-0", "*");
    Ask.means(2, "<2024.01.01 || >=2024.01.01.0", "*");
  }

  private static void noneTouchElsewhere() {
    Probe.sentence("none that touch: of both() and not(), too");
    Ask.both(0, "<=2.0.0 || >=3.0.0", ">=1.0.0 <=4.0.0", ">=1.0.0 <=2.0.0 || >=3.0.0 <=4.0.0");
    Ask.both(0, "<1.0.0 || >1.0.0", "*", "<1.0.0 || >1.0.0");
    Ask.both(0, "<1.0.0 || >1.0.0", "<2.0.0 || >2.0.0", "<1.0.0 || >1.0.0 <2.0.0 || >2.0.0");
    Ask.not(0, "<1.0.0 || >1.0.0", "=1.0.0");
    Ask.not(0, "1.0.0", "<1.0.0 || >1.0.0");
    Ask.not(0, "*", "!");
    Ask.not(0, "!", "*");
    Ask.not(0, "<=1.0.0 || 2.0.0 || >=3.0.0", ">1.0.0 <2.0.0 || >2.0.0 <3.0.0");
  }

  private static void likeOfTerms() {
    Probe.sentence("Of like beginnings (or ends), written differently, the earlier TERM's stays");
    Ask.means(1, ">=1.0 >=1.00 >=0:1.0", ">=1.0");
    Ask.means(1, ">=1.00 >=1.0", ">=1.00");
    Ask.means(1, ">0:1.0 >1.0", ">0:1.0");
    Ask.means(1, "<=1.0 <=1.00", "<=1.0");
    Ask.means(1, "<1.00 <1.0", "<1.00");
    Ask.means(1, "1.00 1.0", "=1.00");
    Ask.means(1, "* 1.00 * 1.0", "=1.00");
    Ask.means(1, ">=1 <=5.00 >=01 <=5.0", ">=1 <=5.00");
    Ask.means(1, "<=5.00 >=1 <=5.0 >=01", ">=1 <=5.00");
    Ask.means(1, ">=0 >=1.00 >=1.0", ">=1.00");
    Ask.means(2, "2024.01.01.0 2024.01.01", "=2024.01.01.0");
    Ask.means(2, "<2024.01.01 <2024.01.01.0", "<2024.01.01");
  }

  private static void likeOfRows() {
    Probe.sentence("Of like beginnings (or ends), written differently, the earlier ROW's stays");
    Ask.means(1, ">=1.0||>=1.00", ">=1.0");
    Ask.means(1, ">=1.00||>=1.0", ">=1.00");
    Ask.means(1, "<1.0||<1.00", "<1.0");
    Ask.means(1, "<=1.00||<=1.0", "<=1.00");
    Ask.means(1, "1.00||1.0", "=1.00");
    Ask.means(1, ">=2 <=5.0||>=1 <=5.00", ">=1 <=5.0");
    Ask.means(1, ">=1 <=5.00||>=2 <=5.0", ">=1 <=5.00");
    Ask.means(1, ">=1.0 <=4||>=1.00 <=5", ">=1.0 <=5");
    Ask.means(1, ">=1.00 <=5||>=1.0 <=4", ">=1.00 <=5");
    Ask.means(1, ">=1 <2||>=3 <4.0||>=01 <4.00", ">=1 <4.0");
    Ask.means(1, ">=01 <4.00||>=1 <2||>=3 <4.0", ">=01 <4.00");
    Ask.means(1, "5||1.0||3||>=1.00 <=05", ">=1.0 <=5");
    Ask.means(2, "2024.01.01.0||2024.01.01", "=2024.01.01.0");
    Ask.means(2, ">2024.01.01||>2024.01.01.0", ">2024.01.01");
    // One that is with its version isn't like one without: that which reaches further counts.
    Ask.means(1, ">1.0||>=1.00", ">=1.00");
    Ask.means(1, "<1.0||<=1.00", "<=1.00");
  }

  private static void likeOfSets() {
    Probe.sentence("Of like beginnings (or ends), written differently, the first set's stays");
    Ask.both(1, ">=1.0 <=2.0", ">=1.00 <=2.00", ">=1.0 <=2.0");
    Ask.both(1, ">=1.00 <=2.00", ">=1.0 <=2.0", ">=1.00 <=2.00");
    Ask.both(1, ">1.0", ">0:1.0", ">1.0");
    Ask.both(1, "<0:1.0", "<1.0", "<0:1.0");
    Ask.both(1, "1.0", "1.00", "=1.0");
    Ask.both(1, "1.00", "*", "=1.00");
    Ask.both(1, "*", "1.00", "=1.00");
    Ask.both(1, "<=1.0 || >=2.0", "<=1.00 || >=2.00", "<=1.0 || >=2.0");
    Ask.both(2, "2024.01.01.0", "2024.01.01", "=2024.01.01.0");
    Ask.not(1, "1.00", "<1.00 || >1.00");
    Ask.not(1, "<=1.0 || >=0:2", ">1.0 <0:2");
  }

  private static void liesInSpan() {
    Probe.sentence("IN a set is a version that lies in a span");
    for (String inside : new String[] {"0.0.1", "2.0.0", "3.5.0", "4.0.0", "99.0.0"}) {
      Ask.in(0, "<1.0.0 || 2.0.0 || >3.0.0 <=4.0.0 || >5.0.0", inside, true);
    }
    for (String outside : new String[] {"1.0.0", "1.9.9", "2.0.1", "3.0.0", "4.0.1", "5.0.0"}) {
      Ask.in(0, "<1.0.0 || 2.0.0 || >3.0.0 <=4.0.0 || >5.0.0", outside, false);
    }
    Ask.in(0, "!", "1.0.0", false);
    Ask.in(1, "1.0", "0:1.00-0", true);
    Ask.in(1, ">1.0", "1.00", false);
  }

  private static void ownNumbers() {
    Probe.sentence("in order 0, if it has MARKS, only if the three NUMBERS of that span's beginning or end are its own");
    Ask.in(0, ">=1.2.3-a", "1.2.3-b", true);
    Ask.in(0, ">=1.2.3-a", "1.2.4-b", false);
    Ask.in(0, ">=1.2.3-a", "1.3.3-b", false);
    Ask.in(0, ">=1.2.3-a", "2.2.3-b", false);
    Ask.in(0, "<=1.2.3-b", "1.2.3-a", true);
    Ask.in(0, "<=1.2.3-b", "1.2.2-a", false);
    Ask.in(0, "<=1.2.3-b", "1.1.3-a", false);
    Ask.in(0, "<=1.2.3-b", "0.2.3-a", false);
    Ask.in(0, ">=1.2.3-a", "1.2.4", true);
    Ask.in(0, "*", "1.2.3-a", false);
    Ask.in(0, "!", "1.2.3-a", false);
    Ask.in(0, ">=1.2.3-a <1.2.3-c", "1.2.3-c", false);
    Ask.in(0, ">1.2.3-a <1.2.3-c", "1.2.3-a", false);
    Ask.in(0, "=1.2.3-a", "1.2.3-a+b", true);
    Ask.in(0, ">=10.0.0-a", "10.0.0-b", true);
    Ask.in(0, ">=1.0.0-a <9", "10.0.0-b", false);
  }

  private static void beginningOrEnd() {
    Probe.sentence("beginning or end .. and that has MARKS, too");
    Ask.in(0, "<1.2.3", "1.2.3-a", false);
    Ask.in(0, "<=1.2.3", "1.2.3-a", false);
    Ask.in(0, "1.2.3", "1.2.3-a", false);
    Ask.in(0, ">=1.0.0 <=1.2.3", "1.2.3-a", false);
    Ask.in(0, ">=1.2.3-a <=1.2.3", "1.2.3-b", true);
    Ask.in(0, ">=1.0.0 <1.2.3-b", "1.2.3-a", true);
    Ask.in(0, ">=1.0.0 <1.2.3-b", "1.0.0-a", false);
    Ask.in(0, ">=1.0.0-a <1.2.3", "1.2.3-a", false);
    Ask.in(0, ">=1.0.0-a <1.2.3", "1.0.0-b", true);
    Ask.in(0, ">=1.0.0-a <1.2.3-b", "1.0.0-b", true);
    Ask.in(0, ">=1.0.0-a <1.2.3-b", "1.2.3-a", true);
    Ask.in(0, ">=1.0.0-a <1.2.3-b", "1.1.0-a", false);
    Ask.in(0, "^1.2.3", "1.2.3-a", false);
    Ask.in(0, "^1.2.3-a", "1.2.3-b", true);
    Ask.in(0, "^1.2.3-a", "2.0.0-0", false);
  }

  private static void thatSpan() {
    Probe.sentence("of that span's beginning or end: not of another span's, nor of a text's that went into it");
    Ask.in(0, ">=1.0.0 <2.0.0 || =3.0.0-a", "3.0.0-b", false);
    Ask.in(0, "=1.2.3-a || >=1.2.4", "1.2.3-b", false);
    Ask.in(0, ">=1.2.3-a <1.2.3-c || >=1.2.3-d", "1.2.3-b", true);
    Ask.in(0, ">=1.2.3-a <1.2.3-c || >=1.2.3-d", "1.2.3-c", false);
    Ask.in(0, ">=1.2.3-a || >=1.0.0", "1.2.3-b", false);
    Ask.in(0, "<1.2.3-a || >=1.2.3-a", "1.2.3-b", false);
    Ask.in(0, ">=1.2.3-a >=1.0.0", "1.2.3-b", true);
    Probe probe = new Probe(0);
    probe.range("<2");
    probe.read("2.0.0-a");
    probe.read("2.0.1-a");
    Probe.due("2.0.0-a in <2", probe.orders.in(0, 0), false);
    probe.orders.not(0);
    Probe.due("2.0.0-a in what <2 isn't", probe.orders.in(1, 0), true);
    Probe.due("2.0.1-a in what <2 isn't", probe.orders.in(1, 1), false);
    probe.orders.not(1);
    Probe.due("2.0.0-a in <2, turned about twice", probe.orders.in(2, 0), false);
    probe.range(">=2.0.0-a <2.0.1");
    probe.orders.both(1, 3);
    Probe.due("2.0.0-a in both", probe.orders.in(4, 0), true);
  }

  private static void marksOnlyInOrder0() {
    Probe.sentence("in order 0: in the others a - counts for nothing of that kind");
    Ask.in(1, "*", "1-a", true);
    Ask.in(1, ">=1", "1.2.3-a", true);
    Ask.in(1, "<2", "1.0~rc1-2", true);
    Ask.in(2, "*", "2024.01.01.7", true);
  }
}
