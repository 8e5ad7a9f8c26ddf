/** What PARTIAL versions, ~ and ^ mean, sentence by sentence. */
public final class PartialEdgeTest {
  private static final String[] OF_ONE = {"7", "7.x", "7.*", "7.X.x"};
  private static final String[] OF_TWO = {"7.8", "7.8.x", "7.8.X", "7.8.*"};

  public static void main(String[] args) {
    likeEqual();
    from();
    above();
    below();
    upTo();
    tilde();
    caret();
    caretOfZeros();
    hyphen();
    nines();
    Probe.end();
  }

  private static void both(String sign, String ofOne, String ofTwo) {
    for (String text : OF_ONE) {
      Ask.means(0, sign + text, ofOne);
    }
    for (String text : OF_TWO) {
      Ask.means(0, sign + text, ofTwo);
    }
  }

  private static void likeEqual() {
    Probe.sentence("A PARTIAL a is from a.0.0 to below (a+1).0.0-0, a.b from a.b.0 to below a.(b+1).0-0: with = or none that");
    both("", ">=7.0.0 <8.0.0-0", ">=7.8.0 <7.9.0-0");
    both("=", ">=7.0.0 <8.0.0-0", ">=7.8.0 <7.9.0-0");
    Ask.means(0, "0", ">=0.0.0 <1.0.0-0");
    Ask.means(0, "0.0", ">=0.0.0 <0.1.0-0");
    Ask.in(0, "7", "7.0.0", true);
    Ask.in(0, "7", "7.99.99", true);
    Ask.in(0, "7", "6.99.99", false);
    Ask.in(0, "7", "8.0.0", false);
    Ask.in(0, "7", "7.0.0-a", false);
    Ask.in(0, "7", "8.0.0-0", false);
    Ask.in(0, "7", "8.0.0-a", false);
  }

  private static void from() {
    Probe.sentence(">= from its beginning on");
    both(">=", ">=7.0.0", ">=7.8.0");
    Ask.means(0, ">=0", ">=0.0.0");
  }

  private static void above() {
    Probe.sentence("> from a + 1, or a.(b+1), filled with 0, on");
    both(">", ">=8.0.0", ">=7.9.0");
    Ask.means(0, ">0", ">=1.0.0");
    Ask.means(0, ">0.0", ">=0.1.0");
    Ask.in(0, ">7", "8.0.0", true);
    Ask.in(0, ">7", "8.0.0-a", false);
    Ask.in(0, ">7", "7.9.9", false);
  }

  private static void below() {
    Probe.sentence("< below its beginning with -0 behind");
    both("<", "<7.0.0-0", "<7.8.0-0");
    Ask.means(0, "<0", "<0.0.0-0");
    Ask.in(0, "<7", "6.9.9", true);
    Ask.in(0, "<7", "7.0.0", false);
    Ask.in(0, "<7", "7.0.0-0", false);
  }

  private static void upTo() {
    Probe.sentence("<= below its end");
    both("<=", "<8.0.0-0", "<7.9.0-0");
    Ask.means(0, "<=0", "<1.0.0-0");
    Ask.in(0, "<=7", "7.9.9", true);
    Ask.in(0, "<=7", "8.0.0", false);
    Ask.in(0, "<=7", "8.0.0-0", false);
  }

  private static void tilde() {
    Probe.sentence("~ of a.b.c, with MARKS or not: from it to below a.(b+1).0-0; of PARTIAL ones like =");
    both("~", ">=7.0.0 <8.0.0-0", ">=7.8.0 <7.9.0-0");
    Ask.means(0, "~7.8.9", ">=7.8.9 <7.9.0-0");
    Ask.means(0, "~7.8.9-a.1", ">=7.8.9-a.1 <7.9.0-0");
    Ask.means(0, "~7.8.9+b", ">=7.8.9 <7.9.0-0");
    Ask.means(0, "~0.0.0", ">=0.0.0 <0.1.0-0");
    Ask.means(0, "~0.0", ">=0.0.0 <0.1.0-0");
    Ask.means(0, "~0", ">=0.0.0 <1.0.0-0");
    Ask.means(0, "~7.0.0", ">=7.0.0 <7.1.0-0");
  }

  private static void caret() {
    Probe.sentence("^ : from it (filled with 0) to below the end of what its first NUMBER that isn't 0 begins");
    both("^", ">=7.0.0 <8.0.0-0", ">=7.8.0 <8.0.0-0");
    Ask.means(0, "^7.8.9", ">=7.8.9 <8.0.0-0");
    Ask.means(0, "^7.0.0", ">=7.0.0 <8.0.0-0");
    Ask.means(0, "^7.0", ">=7.0.0 <8.0.0-0");
    Ask.means(0, "^7.8.9-a", ">=7.8.9-a <8.0.0-0");
    Ask.means(0, "^0.2.3", ">=0.2.3 <0.3.0-0");
    Ask.means(0, "^0.2.0", ">=0.2.0 <0.3.0-0");
    Ask.means(0, "^0.2", ">=0.2.0 <0.3.0-0");
    Ask.means(0, "^0.2.x", ">=0.2.0 <0.3.0-0");
    Ask.means(0, "^0.2.3-a", ">=0.2.3-a <0.3.0-0");
    Ask.means(0, "^0.0.3", ">=0.0.3 <0.0.4-0");
    Ask.means(0, "^0.0.3-a", ">=0.0.3-a <0.0.4-0");
    Ask.in(0, "^0.0.3-b", "0.0.3-c", true);
    Ask.in(0, "^0.0.3-b", "0.0.3-a", false);
    Ask.in(0, "^0.0.3-b", "0.0.4-0", false);
  }

  private static void caretOfZeros() {
    Probe.sentence("if all it has are 0: of the last it has (^0.0: 0.1.0-0; ^0: 1.0.0-0)");
    Ask.means(0, "^0", ">=0.0.0 <1.0.0-0");
    Ask.means(0, "^0.x", ">=0.0.0 <1.0.0-0");
    Ask.means(0, "^0.*.X", ">=0.0.0 <1.0.0-0");
    Ask.means(0, "^0.0", ">=0.0.0 <0.1.0-0");
    Ask.means(0, "^0.0.x", ">=0.0.0 <0.1.0-0");
    Ask.means(0, "^0.0.0", ">=0.0.0 <0.0.1-0");
    Ask.means(0, "^0.0.0-a", ">=0.0.0-a <0.0.1-0");
  }

  private static void hyphen() {
    Probe.sentence("A - B: A filled with 0, up to B's end if it is PARTIAL");
    for (String a : OF_ONE) {
      Ask.means(0, a + " - 9.9.9", ">=7.0.0 <=9.9.9");
      Ask.means(0, "1.2.3 - " + a, ">=1.2.3 <8.0.0-0");
      Ask.means(0, a + " - " + a, ">=7.0.0 <8.0.0-0");
    }
    for (String a : OF_TWO) {
      Ask.means(0, a + " - 9.9.9", ">=7.8.0 <=9.9.9");
      Ask.means(0, "1.2.3 - " + a, ">=1.2.3 <7.9.0-0");
      Ask.means(0, a + " - " + a, ">=7.8.0 <7.9.0-0");
    }
    Ask.means(0, "2 - 1", "!");
    Ask.means(0, "2 - 1.9.9", "!");
    Ask.means(0, "0 - 0", ">=0.0.0 <1.0.0-0");
  }

  private static void nines() {
    Probe.sentence("(a+1), a.(b+1): a NUMBER of any length, of nines, too");
    for (int many : new int[] {1, 2, 3, 9, 10, 18, 19, 20, 60}) {
      String nines = "9".repeat(many);
      String more = "1" + "0".repeat(many);
      Ask.means(0, nines, ">=" + nines + ".0.0 <" + more + ".0.0-0");
      Ask.means(0, "1." + nines, ">=1." + nines + ".0 <1." + more + ".0-0");
      Ask.means(0, ">" + nines, ">=" + more + ".0.0");
      Ask.means(0, ">1." + nines, ">=1." + more + ".0");
      Ask.means(0, "<=" + nines, "<" + more + ".0.0-0");
      Ask.means(0, "~1." + nines + ".2", ">=1." + nines + ".2 <1." + more + ".0-0");
      Ask.means(0, "^" + nines + ".1.1", ">=" + nines + ".1.1 <" + more + ".0.0-0");
      Ask.means(0, "^0.0." + nines, ">=0.0." + nines + " <0.0." + more + "-0");
      Ask.means(0, "1 - " + nines, ">=1.0.0 <" + more + ".0.0-0");
    }
    String most = "9".repeat(200);
    Ask.means(0, most, ">=" + most + ".0.0 <1" + "0".repeat(200) + ".0.0-0");
    Ask.means(0, "1899", ">=1899.0.0 <1900.0.0-0");
    Ask.means(0, "1.109", ">=1.109.0 <1.110.0-0");
    Ask.means(0, "2147483647", ">=2147483647.0.0 <2147483648.0.0-0");
    Ask.means(0, "9223372036854775807", ">=9223372036854775807.0.0 <9223372036854775808.0.0-0");
  }
}
