/** Promise 6: texts of ranges, the spans they mean, and the places of what can't stand. */
public final class RangeTest {
  public static void main(String[] args) {
    terms();
    partials();
    tildesAndCarets();
    hyphens();
    rows();
    written();
    semanticFails();
    packageFails();
    dateFails();
    limits();
    Probe.end();
  }

  private static void terms() {
    Ask.means(0, "*", "*");
    Ask.means(0, "!", "!");
    Ask.means(0, "  !  ", "!");
    Ask.means(0, "1.2.3", "=1.2.3");
    Ask.means(0, "=1.2.3-a+b", "=1.2.3-a");
    Ask.means(0, "<1.2.3", "<1.2.3");
    Ask.means(0, "<=1.2.3", "<=1.2.3");
    Ask.means(0, ">1.2.3", ">1.2.3");
    Ask.means(0, ">=1.2.3", ">=1.2.3");
    Ask.means(0, "  >=1.2.3   <2.0.0  ", ">=1.2.3 <2.0.0");
    Ask.means(0, "<2.0.0 >=1.2.3 >1.0.0 <=3.0.0", ">=1.2.3 <2.0.0");
    Ask.means(0, ">1.0.0 >=1.0.0 <2.0.0 <=2.0.0", ">1.0.0 <2.0.0");
    Ask.means(0, "* 1.2.3 *", "=1.2.3");
    Ask.means(0, "* *", "*");
    Ask.means(0, ">=1.2.3 <=1.2.3", "=1.2.3");
    Ask.means(0, ">1.2.3 <=1.2.3", "!");
    Ask.means(0, ">=1.2.3 <1.2.3", "!");
    Ask.means(0, ">2.0.0 <1.0.0", "!");
    Ask.means(0, ">2.0.0 <1.0.0 *", "!");
    Ask.means(0, "1.2.3 1.2.4", "!");
    Ask.means(1, "*", "*");
    Ask.means(1, "!", "!");
    Ask.means(1, "1.0+b", "=1.0+b");
    Ask.means(1, ">=0:1.0-1 <1:2", ">=0:1.0-1 <1:2");
    Ask.means(2, "*", "*");
    Ask.means(2, " ! ", "!");
    Ask.means(2, ">2024.02.29 <=2024.02.29.7", ">2024.02.29 <=2024.02.29.7");
    Ask.means(2, "2024.02.29.0", "=2024.02.29.0");
  }

  private static void partials() {
    Ask.means(0, "1", ">=1.0.0 <2.0.0-0");
    Ask.means(0, "=1", ">=1.0.0 <2.0.0-0");
    Ask.means(0, "0", ">=0.0.0 <1.0.0-0");
    Ask.means(0, "1.2", ">=1.2.0 <1.3.0-0");
    Ask.means(0, "=1.9", ">=1.9.0 <1.10.0-0");
    Ask.means(0, "1.x", ">=1.0.0 <2.0.0-0");
    Ask.means(0, "1.X.*", ">=1.0.0 <2.0.0-0");
    Ask.means(0, "1.*.x", ">=1.0.0 <2.0.0-0");
    Ask.means(0, "1.2.x", ">=1.2.0 <1.3.0-0");
    Ask.means(0, "1.2.X", ">=1.2.0 <1.3.0-0");
    Ask.means(0, "1.2.*", ">=1.2.0 <1.3.0-0");
    Ask.means(0, "x", "*");
    Ask.means(0, "X", "*");
    Ask.means(0, "x 1.2.3 X", "=1.2.3");
    Ask.means(0, ">=1", ">=1.0.0");
    Ask.means(0, ">=1.2", ">=1.2.0");
    Ask.means(0, ">1", ">=2.0.0");
    Ask.means(0, ">1.2", ">=1.3.0");
    Ask.means(0, ">1.x.x", ">=2.0.0");
    Ask.means(0, "<1", "<1.0.0-0");
    Ask.means(0, "<1.2", "<1.2.0-0");
    Ask.means(0, "<1.2.x", "<1.2.0-0");
    Ask.means(0, "<=1", "<2.0.0-0");
    Ask.means(0, "<=1.2", "<1.3.0-0");
    Ask.means(0, "99", ">=99.0.0 <100.0.0-0");
    Ask.means(0, "199", ">=199.0.0 <200.0.0-0");
    Ask.means(0, "4294967295", ">=4294967295.0.0 <4294967296.0.0-0");
    String nines = "9".repeat(200);
    Ask.means(0, nines, ">=" + nines + ".0.0 <1" + "0".repeat(200) + ".0.0-0");
  }

  private static void tildesAndCarets() {
    Ask.means(0, "~1.2.3", ">=1.2.3 <1.3.0-0");
    Ask.means(0, "~1.2.3-a", ">=1.2.3-a <1.3.0-0");
    Ask.means(0, "~1.2.3-a+b", ">=1.2.3-a <1.3.0-0");
    Ask.means(0, "~0.0.9", ">=0.0.9 <0.1.0-0");
    Ask.means(0, "~1.2", ">=1.2.0 <1.3.0-0");
    Ask.means(0, "~1", ">=1.0.0 <2.0.0-0");
    Ask.means(0, "~1.x", ">=1.0.0 <2.0.0-0");
    Ask.means(0, "^1.2.3", ">=1.2.3 <2.0.0-0");
    Ask.means(0, "^1.2.3-a.1", ">=1.2.3-a.1 <2.0.0-0");
    Ask.means(0, "^0.2.3", ">=0.2.3 <0.3.0-0");
    Ask.means(0, "^0.0.3", ">=0.0.3 <0.0.4-0");
    Ask.means(0, "^0.0.9-a", ">=0.0.9-a <0.0.10-0");
    Ask.means(0, "^0.0.0", ">=0.0.0 <0.0.1-0");
    Ask.means(0, "^0.0", ">=0.0.0 <0.1.0-0");
    Ask.means(0, "^0", ">=0.0.0 <1.0.0-0");
    Ask.means(0, "^0.x", ">=0.0.0 <1.0.0-0");
    Ask.means(0, "^0.x.x", ">=0.0.0 <1.0.0-0");
    Ask.means(0, "^0.0.x", ">=0.0.0 <0.1.0-0");
    Ask.means(0, "^0.2", ">=0.2.0 <0.3.0-0");
    Ask.means(0, "^0.2.x", ">=0.2.0 <0.3.0-0");
    Ask.means(0, "^1", ">=1.0.0 <2.0.0-0");
    Ask.means(0, "^1.2", ">=1.2.0 <2.0.0-0");
    Ask.means(0, "^1.0", ">=1.0.0 <2.0.0-0");
    Ask.means(0, "^1.0.x", ">=1.0.0 <2.0.0-0");
    Ask.means(0, "^1.2 ~1.4", ">=1.4.0 <1.5.0-0");
  }

  private static void hyphens() {
    Ask.means(0, "1.2.3 - 2.3.4", ">=1.2.3 <=2.3.4");
    Ask.means(0, "1.2.3-a - 2.3.4-b", ">=1.2.3-a <=2.3.4-b");
    Ask.means(0, "1 - 2", ">=1.0.0 <3.0.0-0");
    Ask.means(0, "1.2 - 2.3", ">=1.2.0 <2.4.0-0");
    Ask.means(0, "1.x - 2.3.x", ">=1.0.0 <2.4.0-0");
    Ask.means(0, "1.2.3 - 2", ">=1.2.3 <3.0.0-0");
    Ask.means(0, "1 - 2.3.4", ">=1.0.0 <=2.3.4");
    Ask.means(0, "2 - 1.0.0", "!");
    Ask.means(0, "1.2.3 - 1.2.3", "=1.2.3");
    Ask.means(0, " 1 - 2 || 4 - 5 ", ">=1.0.0 <3.0.0-0 || >=4.0.0 <6.0.0-0");
    Ask.means(0, "1 - 2||3", ">=1.0.0 <3.0.0-0 || >=3.0.0 <4.0.0-0");
    Ask.means(0, "1  -  2", ">=1.0.0 <3.0.0-0");
    Ask.means(1, "1.0-1 - 2.0-1", ">=1.0-1 <=2.0-1");
    Ask.means(1, "1:1 - 2:0", ">=1:1 <=2:0");
    Ask.means(2, "2024.01.01 - 2024.12.31", ">=2024.01.01 <=2024.12.31");
    Ask.rangeFails(0, "1 -", 3);
    Ask.rangeFails(0, "1 - ", 4);
    Ask.rangeFails(0, "1 -2", 3);
    Ask.rangeFails(0, "1 -a", 3);
    Ask.rangeFails(0, "1 - x", 4);
    Ask.rangeFails(0, "1 - *", 4);
    Ask.rangeFails(0, "1 - <2", 4);
    Ask.rangeFails(0, "1 - - 2", 4);
    Ask.rangeFails(0, "1 - 2 3", 6);
    Ask.rangeFails(0, "1 - 2 *", 6);
    Ask.rangeFails(0, "1 - 2 - 3", 6);
    Ask.rangeFails(0, "1 - 2.  3", 6);
    Ask.rangeFails(0, "1 - 2.3.4-  ", 10);
    Ask.rangeFails(0, "1 2 - 3", 4);
    Ask.rangeFails(0, "=1 - 2", 3);
    Ask.rangeFails(0, "^1 - 2", 3);
    Ask.rangeFails(0, "* - 2", 2);
    Ask.rangeFails(0, "x - 2", 2);
    Ask.rangeFails(0, "- 2", 0);
    Ask.rangeFails(0, "1 || - 2", 5);
    Ask.rangeFails(1, "1.0 -2", 5);
    Ask.rangeFails(1, "1.0 - a", 6);
    Ask.rangeFails(2, "2024.01.01- 2024.12.31", 10);
    Ask.rangeFails(2, "2024.01.01 - 2024.12.32", 21);
    Ask.rangeFails(2, "2024.01.01 - 2024.1  ", 19);
  }

  private static void rows() {
    Ask.means(0, "1||3", ">=1.0.0 <2.0.0-0 || >=3.0.0 <4.0.0-0");
    Ask.means(0, "3 || 1", ">=1.0.0 <2.0.0-0 || >=3.0.0 <4.0.0-0");
    Ask.means(0, "1  ||  1.5", ">=1.0.0 <2.0.0-0");
    Ask.means(0, "<1.0.0||>=1.0.0", "*");
    Ask.means(0, "<=1.0.0||>1.0.0", "*");
    Ask.means(0, "<1.0.0||>1.0.0", "<1.0.0 || >1.0.0");
    Ask.means(0, "<1.0.0||>1.0.0||1.0.0", "*");
    Ask.means(0, "<1.0.0||1.0.0", "<=1.0.0");
    Ask.means(0, "1.0.0||>1.0.0", ">=1.0.0");
    Ask.means(0, "1.0.0||1.0.1", "=1.0.0 || =1.0.1");
    Ask.means(0, "1.0.0||1.0.0+b", "=1.0.0");
    Ask.means(0, ">=5.0.0||<1.0.0||3.0.0||>=1.0.0 <5.0.0", "*");
    Ask.means(0, ">2.0.0 <1.0.0||3.0.0", "=3.0.0");
    Ask.means(0, ">2.0.0 <1.0.0||>2.0.0 <1.0.0", "!");
    Ask.means(0, "1.0.0||3.0.0||5.0.0||>=2.0.0 <=4.0.0", "=1.0.0 || >=2.0.0 <=4.0.0 || =5.0.0");
    Ask.means(0, "*||1.0.0", "*");
    Ask.means(0, "<2.0.0||>1.0.0", "*");
    Ask.means(1, "1||1.0||1~", "=1~ || =1 || =1.0");
    Ask.means(2, "2024.01.01||2024.01.02", "=2024.01.01 || =2024.01.02");
    Ask.means(2, ">2024.01.01||2024.01.01.0", ">=2024.01.01.0");
  }

  /** Of like ones, written differently, the earlier TERM's or ROW's stays. */
  private static void written() {
    Ask.means(1, ">=1.0 >=1.00", ">=1.0");
    Ask.means(1, ">=1.00 >=1.0", ">=1.00");
    Ask.means(1, "<=0:1.0 <=1.0-0", "<=0:1.0");
    Ask.means(1, ">=1.0 >1.00", ">1.00");
    Ask.means(1, ">1.0 >=1.00", ">1.0");
    Ask.means(1, "<2 <=2.", "<2");
    Ask.means(1, ">=1.0 <=1.00", "=1.0");
    Ask.means(1, ">=1.0||>=1.00", ">=1.0");
    Ask.means(1, ">=1.00||>=1.0", ">=1.00");
    Ask.means(1, ">1.0||>=1.00", ">=1.00");
    Ask.means(1, ">=2 <=5.0||>=1 <=5.00", ">=1 <=5.0");
    Ask.means(1, ">=1 <=5.00||>=2 <=5.0", ">=1 <=5.00");
    Ask.means(1, "<5.0||1||<5.00", "<5.0");
    Ask.means(1, ">=1 <2||>=3 <4.0||>=01 <=4.00", ">=1 <=4.00");
    Ask.means(1, ">=1 <2||>=3 <4.0||>=01 <4.00", ">=1 <4.0");
    Ask.means(2, "2024.01.01||2024.01.01.0", "=2024.01.01");
    Ask.means(2, "2024.01.01.0 2024.01.01", "=2024.01.01.0");
  }

  private static void semanticFails() {
    Ask.rangeFails(0, "", 0);
    Ask.rangeFails(0, " ", 1);
    Ask.rangeFails(0, "   ", 3);
    Ask.rangeFails(0, "||", 0);
    Ask.rangeFails(0, "|| 1", 0);
    Ask.rangeFails(0, "1 ||", 4);
    Ask.rangeFails(0, "1 || ", 5);
    Ask.rangeFails(0, "1 |", 3);
    Ask.rangeFails(0, "1 | 2", 3);
    Ask.rangeFails(0, "1 ||| 2", 4);
    Ask.rangeFails(0, "1 || || 2", 5);
    Ask.rangeFails(0, "! 1", 2);
    Ask.rangeFails(0, "!!", 1);
    Ask.rangeFails(0, "!||1", 1);
    Ask.rangeFails(0, "1 !", 2);
    Ask.rangeFails(0, "1||!", 3);
    Ask.rangeFails(0, ">", 1);
    Ask.rangeFails(0, "> 1", 1);
    Ask.rangeFails(0, ">=", 2);
    Ask.rangeFails(0, ">> 1", 1);
    Ask.rangeFails(0, "==1", 1);
    Ask.rangeFails(0, "=<1", 1);
    Ask.rangeFails(0, ">==1", 2);
    Ask.rangeFails(0, "~>1", 1);
    Ask.rangeFails(0, "^~1", 1);
    Ask.rangeFails(0, ">*", 1);
    Ask.rangeFails(0, "^x", 1);
    Ask.rangeFails(0, "=X", 1);
    Ask.rangeFails(0, "**", 1);
    Ask.rangeFails(0, "*.1", 1);
    Ask.rangeFails(0, "x.1", 1);
    Ask.rangeFails(0, "xx", 1);
    Ask.rangeFails(0, "x1", 1);
    Ask.rangeFails(0, "1.x.1", 4);
    Ask.rangeFails(0, "1.x.", 4);
    Ask.rangeFails(0, "1.x.x.x", 5);
    Ask.rangeFails(0, "1.xx", 3);
    Ask.rangeFails(0, "1.2.xx", 5);
    Ask.rangeFails(0, "1.", 2);
    Ask.rangeFails(0, "1.2.", 4);
    Ask.rangeFails(0, "1.a", 2);
    Ask.rangeFails(0, "01", 1);
    Ask.rangeFails(0, "1.02", 3);
    Ask.rangeFails(0, "1-a", 1);
    Ask.rangeFails(0, "1.2-a", 3);
    Ask.rangeFails(0, "1.x-a", 3);
    Ask.rangeFails(0, "1.2+a", 3);
    Ask.rangeFails(0, "1.2.3.4", 5);
    Ask.rangeFails(0, "1.2.3- ", 6);
    Ask.rangeFails(0, "1.2.3-01 *", 6);
    Ask.rangeFails(0, "1.2.3+ ", 6);
    Ask.rangeFails(0, "1.2.3<2", 5);
    Ask.rangeFails(0, "<2>1", 2);
    Ask.rangeFails(0, "1 2 a", 4);
    Ask.rangeFails(0, "1, 2", 1);
    Ask.rangeFails(0, "v1", 0);
  }

  private static void packageFails() {
    Ask.rangeFails(1, "", 0);
    Ask.rangeFails(1, "^1", 0);
    Ask.rangeFails(1, "~1", 0);
    Ask.rangeFails(1, "x", 0);
    Ask.rangeFails(1, "X", 0);
    Ask.rangeFails(1, "<<2", 1);
    Ask.rangeFails(1, ">=1.0~ <<2", 8);
    Ask.rangeFails(1, "1.0- <2", 4);
    Ask.rangeFails(1, "1.0-||2", 4);
    Ask.rangeFails(1, ">1.0- -", 5);
    Ask.rangeFails(1, "1: 2", 2);
    Ask.rangeFails(1, "01:2", 2);
    Ask.rangeFails(1, "1.*", 2);
    Ask.rangeFails(1, "=a", 1);
    Ask.rangeFails(1, "1 || ", 5);
  }

  private static void dateFails() {
    Ask.rangeFails(2, "", 0);
    Ask.rangeFails(2, "^2024.01.01", 0);
    Ask.rangeFails(2, "2024", 4);
    Ask.rangeFails(2, "2024.x", 5);
    Ask.rangeFails(2, "2024.01.x", 8);
    Ask.rangeFails(2, ">=2024.02.30", 10);
    Ask.rangeFails(2, "* 2024.13.01", 7);
    Ask.rangeFails(2, "2024.01.01. ", 11);
    Ask.rangeFails(2, "2024.01.01 2024.1 ", 17);
  }

  /** 40 spans and 200 sets at most; what can't stand is told before that. */
  private static void limits() {
    Probe probe = new Probe(1);
    Probe.due("40 spans", probe.range(Ask.points(0, 40)), 0);
    Probe.due("41 spans", probe.range(Ask.points(0, 41)), -1000);
    Probe.due("the next set", probe.range("1"), 1);
    Probe.due("41 rows, one span", new Probe(1).range(Ask.points(0, 41) + "||*"), 0);
    Probe.due("41 spans, then a fault", new Probe(1).range(Ask.points(0, 41) + "||"), -1 - Ask.points(0, 41).length() - 2);
    Probe many = new Probe(0);
    many.range("*");
    for (int i = 1; i < 200; i++) {
      Probe.due("set " + i, many.orders.not(i - 1), i);
    }
    Probe.due("set 200", many.range("1"), -1000);
    Probe.due("a fault when there are 200 sets", many.range("1."), -3);
    Probe.due("none's set 200", many.range("!"), -1000);
    Probe.due("set 199 is there", many.printed(199), "!");
  }
}
