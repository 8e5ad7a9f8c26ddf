/** Promise 6: texts of ranges, the spans they mean, and the places of what can't stand. */
public final class RangeTest {
  public static void main(String[] args) {
    terms();
    partials();
    tildesAndCarets();
    hyphens();
    rows();
    written();
    semanticFails();
    packageFails();
    dateFails();
    limits();
    Probe.end();
  }

  /** What the set of a range prints shows its spans. */
  private static void means(int order, String range, String want) {
    Probe.due("order " + order + ": range " + range, new Probe(order).shown(range), want);
  }

  private static void fails(int order, String range, int place) {
    Probe.due("order " + order + ": range " + range, new Probe(order).range(range), -1 - place);
  }

  private static void terms() {
    means(0, "*", "*");
    means(0, "!", "!");
    means(0, "  !  ", "!");
    means(0, "1.2.3", "=1.2.3");
    means(0, "=1.2.3-a+b", "=1.2.3-a");
    means(0, "<1.2.3", "<1.2.3");
    means(0, "<=1.2.3", "<=1.2.3");
    means(0, ">1.2.3", ">1.2.3");
    means(0, ">=1.2.3", ">=1.2.3");
    means(0, "  >=1.2.3   <2.0.0  ", ">=1.2.3 <2.0.0");
    means(0, "<2.0.0 >=1.2.3 >1.0.0 <=3.0.0", ">=1.2.3 <2.0.0");
    means(0, ">1.0.0 >=1.0.0 <2.0.0 <=2.0.0", ">1.0.0 <2.0.0");
    means(0, "* 1.2.3 *", "=1.2.3");
    means(0, "* *", "*");
    means(0, ">=1.2.3 <=1.2.3", "=1.2.3");
    means(0, ">1.2.3 <=1.2.3", "!");
    means(0, ">=1.2.3 <1.2.3", "!");
    means(0, ">2.0.0 <1.0.0", "!");
    means(0, ">2.0.0 <1.0.0 *", "!");
    means(0, "1.2.3 1.2.4", "!");
    means(1, "*", "*");
    means(1, "!", "!");
    means(1, "1.0+b", "=1.0+b");
    means(1, ">=0:1.0-1 <1:2", ">=0:1.0-1 <1:2");
    means(2, "*", "*");
    means(2, " ! ", "!");
    means(2, ">2024.02.29 <=2024.02.29.7", ">2024.02.29 <=2024.02.29.7");
    means(2, "2024.02.29.0", "=2024.02.29.0");
  }

  private static void partials() {
    means(0, "1", ">=1.0.0 <2.0.0-0");
    means(0, "=1", ">=1.0.0 <2.0.0-0");
    means(0, "0", ">=0.0.0 <1.0.0-0");
    means(0, "1.2", ">=1.2.0 <1.3.0-0");
    means(0, "=1.9", ">=1.9.0 <1.10.0-0");
    means(0, "1.x", ">=1.0.0 <2.0.0-0");
    means(0, "1.X.*", ">=1.0.0 <2.0.0-0");
    means(0, "1.*.x", ">=1.0.0 <2.0.0-0");
    means(0, "1.2.x", ">=1.2.0 <1.3.0-0");
    means(0, "1.2.X", ">=1.2.0 <1.3.0-0");
    means(0, "1.2.*", ">=1.2.0 <1.3.0-0");
    means(0, "x", "*");
    means(0, "X", "*");
    means(0, "x 1.2.3 X", "=1.2.3");
    means(0, ">=1", ">=1.0.0");
    means(0, ">=1.2", ">=1.2.0");
    means(0, ">1", ">=2.0.0");
    means(0, ">1.2", ">=1.3.0");
    means(0, ">1.x.x", ">=2.0.0");
    means(0, "<1", "<1.0.0-0");
    means(0, "<1.2", "<1.2.0-0");
    means(0, "<1.2.x", "<1.2.0-0");
    means(0, "<=1", "<2.0.0-0");
    means(0, "<=1.2", "<1.3.0-0");
    means(0, "99", ">=99.0.0 <100.0.0-0");
    means(0, "199", ">=199.0.0 <200.0.0-0");
    means(0, "4294967295", ">=4294967295.0.0 <4294967296.0.0-0");
    String nines = "9".repeat(200);
    means(0, nines, ">=" + nines + ".0.0 <1" + "0".repeat(200) + ".0.0-0");
  }

  private static void tildesAndCarets() {
    means(0, "~1.2.3", ">=1.2.3 <1.3.0-0");
    means(0, "~1.2.3-a", ">=1.2.3-a <1.3.0-0");
    means(0, "~1.2.3-a+b", ">=1.2.3-a <1.3.0-0");
    means(0, "~0.0.9", ">=0.0.9 <0.1.0-0");
    means(0, "~1.2", ">=1.2.0 <1.3.0-0");
    means(0, "~1", ">=1.0.0 <2.0.0-0");
    means(0, "~1.x", ">=1.0.0 <2.0.0-0");
    means(0, "^1.2.3", ">=1.2.3 <2.0.0-0");
    means(0, "^1.2.3-a.1", ">=1.2.3-a.1 <2.0.0-0");
    means(0, "^0.2.3", ">=0.2.3 <0.3.0-0");
    means(0, "^0.0.3", ">=0.0.3 <0.0.4-0");
    means(0, "^0.0.9-a", ">=0.0.9-a <0.0.10-0");
    means(0, "^0.0.0", ">=0.0.0 <0.0.1-0");
    means(0, "^0.0", ">=0.0.0 <0.1.0-0");
    means(0, "^0", ">=0.0.0 <1.0.0-0");
    means(0, "^0.x", ">=0.0.0 <1.0.0-0");
    means(0, "^0.x.x", ">=0.0.0 <1.0.0-0");
    means(0, "^0.0.x", ">=0.0.0 <0.1.0-0");
    means(0, "^0.2", ">=0.2.0 <0.3.0-0");
    means(0, "^0.2.x", ">=0.2.0 <0.3.0-0");
    means(0, "^1", ">=1.0.0 <2.0.0-0");
    means(0, "^1.2", ">=1.2.0 <2.0.0-0");
    means(0, "^1.0", ">=1.0.0 <2.0.0-0");
    means(0, "^1.0.x", ">=1.0.0 <2.0.0-0");
    means(0, "^1.2 ~1.4", ">=1.4.0 <1.5.0-0");
  }

  private static void hyphens() {
    means(0, "1.2.3 - 2.3.4", ">=1.2.3 <=2.3.4");
    means(0, "1.2.3-a - 2.3.4-b", ">=1.2.3-a <=2.3.4-b");
    means(0, "1 - 2", ">=1.0.0 <3.0.0-0");
    means(0, "1.2 - 2.3", ">=1.2.0 <2.4.0-0");
    means(0, "1.x - 2.3.x", ">=1.0.0 <2.4.0-0");
    means(0, "1.2.3 - 2", ">=1.2.3 <3.0.0-0");
    means(0, "1 - 2.3.4", ">=1.0.0 <=2.3.4");
    means(0, "2 - 1.0.0", "!");
    means(0, "1.2.3 - 1.2.3", "=1.2.3");
    means(0, " 1 - 2 || 4 - 5 ", ">=1.0.0 <3.0.0-0 || >=4.0.0 <6.0.0-0");
    means(0, "1 - 2||3", ">=1.0.0 <3.0.0-0 || >=3.0.0 <4.0.0-0");
    means(0, "1  -  2", ">=1.0.0 <3.0.0-0");
    means(1, "1.0-1 - 2.0-1", ">=1.0-1 <=2.0-1");
    means(1, "1:1 - 2:0", ">=1:1 <=2:0");
    means(2, "2024.01.01 - 2024.12.31", ">=2024.01.01 <=2024.12.31");
    fails(0, "1 -", 3);
    fails(0, "1 - ", 4);
    fails(0, "1 -2", 3);
    fails(0, "1 -a", 3);
    fails(0, "1 - x", 4);
    fails(0, "1 - *", 4);
    fails(0, "1 - <2", 4);
    fails(0, "1 - - 2", 4);
    fails(0, "1 - 2 3", 6);
    fails(0, "1 - 2 *", 6);
    fails(0, "1 - 2 - 3", 6);
    fails(0, "1 - 2.  3", 6);
    fails(0, "1 - 2.3.4-  ", 10);
    fails(0, "1 2 - 3", 4);
    fails(0, "=1 - 2", 3);
    fails(0, "^1 - 2", 3);
    fails(0, "* - 2", 2);
    fails(0, "x - 2", 2);
    fails(0, "- 2", 0);
    fails(0, "1 || - 2", 5);
    fails(1, "1.0 -2", 5);
    fails(1, "1.0 - a", 6);
    fails(2, "2024.01.01- 2024.12.31", 10);
    fails(2, "2024.01.01 - 2024.12.32", 21);
    fails(2, "2024.01.01 - 2024.1  ", 19);
  }

  private static void rows() {
    means(0, "1||3", ">=1.0.0 <2.0.0-0 || >=3.0.0 <4.0.0-0");
    means(0, "3 || 1", ">=1.0.0 <2.0.0-0 || >=3.0.0 <4.0.0-0");
    means(0, "1  ||  1.5", ">=1.0.0 <2.0.0-0");
    means(0, "<1.0.0||>=1.0.0", "*");
    means(0, "<=1.0.0||>1.0.0", "*");
    means(0, "<1.0.0||>1.0.0", "<1.0.0 || >1.0.0");
    means(0, "<1.0.0||>1.0.0||1.0.0", "*");
    means(0, "<1.0.0||1.0.0", "<=1.0.0");
    means(0, "1.0.0||>1.0.0", ">=1.0.0");
    means(0, "1.0.0||1.0.1", "=1.0.0 || =1.0.1");
    means(0, "1.0.0||1.0.0+b", "=1.0.0");
    means(0, ">=5.0.0||<1.0.0||3.0.0||>=1.0.0 <5.0.0", "*");
    means(0, ">2.0.0 <1.0.0||3.0.0", "=3.0.0");
    means(0, ">2.0.0 <1.0.0||>2.0.0 <1.0.0", "!");
    means(0, "1.0.0||3.0.0||5.0.0||>=2.0.0 <=4.0.0", "=1.0.0 || >=2.0.0 <=4.0.0 || =5.0.0");
    means(0, "*||1.0.0", "*");
    means(0, "<2.0.0||>1.0.0", "*");
    means(1, "1||1.0||1~", "=1~ || =1 || =1.0");
    means(2, "2024.01.01||2024.01.02", "=2024.01.01 || =2024.01.02");
    means(2, ">2024.01.01||2024.01.01.0", ">=2024.01.01.0");
  }

  /** Of like ones, written differently, the earlier TERM's or ROW's stays. */
  private static void written() {
    means(1, ">=1.0 >=1.00", ">=1.0");
    means(1, ">=1.00 >=1.0", ">=1.00");
    means(1, "<=0:1.0 <=1.0-0", "<=0:1.0");
    means(1, ">=1.0 >1.00", ">1.00");
    means(1, ">1.0 >=1.00", ">1.0");
    means(1, "<2 <=2.", "<2");
    means(1, ">=1.0 <=1.00", "=1.0");
    means(1, ">=1.0||>=1.00", ">=1.0");
    means(1, ">=1.00||>=1.0", ">=1.00");
    means(1, ">1.0||>=1.00", ">=1.00");
    means(1, ">=2 <=5.0||>=1 <=5.00", ">=1 <=5.0");
    means(1, ">=1 <=5.00||>=2 <=5.0", ">=1 <=5.00");
    means(1, "<5.0||1||<5.00", "<5.0");
    means(1, ">=1 <2||>=3 <4.0||>=01 <=4.00", ">=1 <=4.00");
    means(1, ">=1 <2||>=3 <4.0||>=01 <4.00", ">=1 <4.0");
    means(2, "2024.01.01||2024.01.01.0", "=2024.01.01");
    means(2, "2024.01.01.0 2024.01.01", "=2024.01.01.0");
  }

  private static void semanticFails() {
    fails(0, "", 0);
    fails(0, " ", 1);
    fails(0, "   ", 3);
    fails(0, "||", 0);
    fails(0, "|| 1", 0);
    fails(0, "1 ||", 4);
    fails(0, "1 || ", 5);
    fails(0, "1 |", 3);
    fails(0, "1 | 2", 3);
    fails(0, "1 ||| 2", 4);
    fails(0, "1 || || 2", 5);
    fails(0, "! 1", 2);
    fails(0, "!!", 1);
    fails(0, "!||1", 1);
    fails(0, "1 !", 2);
    fails(0, "1||!", 3);
    fails(0, ">", 1);
    fails(0, "> 1", 1);
    fails(0, ">=", 2);
    fails(0, ">> 1", 1);
    fails(0, "==1", 1);
    fails(0, "=<1", 1);
    fails(0, ">==1", 2);
    fails(0, "~>1", 1);
    fails(0, "^~1", 1);
    fails(0, ">*", 1);
    fails(0, "^x", 1);
    fails(0, "=X", 1);
    fails(0, "**", 1);
    fails(0, "*.1", 1);
    fails(0, "x.1", 1);
    fails(0, "xx", 1);
    fails(0, "x1", 1);
    fails(0, "1.x.1", 4);
    fails(0, "1.x.", 4);
    fails(0, "1.x.x.x", 5);
    fails(0, "1.xx", 3);
    fails(0, "1.2.xx", 5);
    fails(0, "1.", 2);
    fails(0, "1.2.", 4);
    fails(0, "1.a", 2);
    fails(0, "01", 1);
    fails(0, "1.02", 3);
    fails(0, "1-a", 1);
    fails(0, "1.2-a", 3);
    fails(0, "1.x-a", 3);
    fails(0, "1.2+a", 3);
    fails(0, "1.2.3.4", 5);
    fails(0, "1.2.3- ", 6);
    fails(0, "1.2.3-01 *", 6);
    fails(0, "1.2.3+ ", 6);
    fails(0, "1.2.3<2", 5);
    fails(0, "<2>1", 2);
    fails(0, "1 2 a", 4);
    fails(0, "1, 2", 1);
    fails(0, "v1", 0);
  }

  private static void packageFails() {
    fails(1, "", 0);
    fails(1, "^1", 0);
    fails(1, "~1", 0);
    fails(1, "x", 0);
    fails(1, "X", 0);
    fails(1, "<<2", 1);
    fails(1, ">=1.0~ <<2", 8);
    fails(1, "1.0- <2", 4);
    fails(1, "1.0-||2", 4);
    fails(1, ">1.0- -", 5);
    fails(1, "1: 2", 2);
    fails(1, "01:2", 2);
    fails(1, "1.*", 2);
    fails(1, "=a", 1);
    fails(1, "1 || ", 5);
  }

  private static void dateFails() {
    fails(2, "", 0);
    fails(2, "^2024.01.01", 0);
    fails(2, "2024", 4);
    fails(2, "2024.x", 5);
    fails(2, "2024.01.x", 8);
    fails(2, ">=2024.02.30", 10);
    fails(2, "* 2024.13.01", 7);
    fails(2, "2024.01.01. ", 11);
    fails(2, "2024.01.01 2024.1 ", 17);
  }

  /** 40 spans and 200 sets at most; what can't stand is told before that. */
  private static void limits() {
    Probe probe = new Probe(1);
    Probe.due("40 spans", probe.range(rowsOf(40)), 0);
    Probe.due("41 spans", probe.range(rowsOf(41)), -1000);
    Probe.due("the next set", probe.range("1"), 1);
    Probe.due("41 rows, one span", new Probe(1).range(rowsOf(41) + "||*"), 0);
    Probe.due("41 spans, then a fault", new Probe(1).range(rowsOf(41) + "||"), -1 - rowsOf(41).length() - 2);
    Probe many = new Probe(0);
    many.range("*");
    for (int i = 1; i < 200; i++) {
      Probe.due("set " + i, many.orders.not(i - 1), i);
    }
    Probe.due("set 200", many.range("1"), -1000);
    Probe.due("a fault when there are 200 sets", many.range("1."), -3);
    Probe.due("none's set 200", many.range("!"), -1000);
    Probe.due("set 199 is there", many.printed(199), "!");
  }

  private static String rowsOf(int many) {
    StringBuilder text = new StringBuilder("0");
    for (int i = 1; i < many; i++) {
      text.append("||").append(i);
    }
    return text.toString();
  }
}
