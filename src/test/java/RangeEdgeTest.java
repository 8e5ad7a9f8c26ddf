/** RANGE, ROW, TERM and PARTIAL versions, sentence by sentence. */
public final class RangeEdgeTest {
  public static void main(String[] args) {
    none();
    rows();
    terms();
    blanks();
    all();
    signsInFront();
    noBlankBetween();
    hyphen();
    hyphenBehind();
    hyphenBefore();
    onlyInOrder0();
    partialForms();
    behindWild();
    withoutMarks();
    Probe.end();
  }

  private static void none() {
    Probe.sentence("A RANGE: ! (none)");
    for (int order = 0; order <= 2; order++) {
      Ask.means(order, "!", "!");
      Ask.rangeFails(order, "!!", 1);
      Ask.rangeFails(order, "! !", 2);
      Ask.rangeFails(order, "!*", 1);
      Ask.rangeFails(order, "! *", 2);
      Ask.rangeFails(order, "!||*", 1);
      Ask.rangeFails(order, "! || *", 2);
      Ask.rangeFails(order, "*!", 1);
      Ask.rangeFails(order, "* !", 2);
      Ask.rangeFails(order, "*||!", 3);
      Ask.rangeFails(order, "=!", 1);
      Probe probe = new Probe(order);
      probe.range("!");
      Probe.due("! is empty", probe.orders.empty(0), true);
    }
  }

  private static void rows() {
    Probe.sentence("or ROWS with || between");
    Ask.means(0, "1.0.0||2.0.0||3.0.0", "=1.0.0 || =2.0.0 || =3.0.0");
    Ask.rangeFails(0, "||", 0);
    Ask.rangeFails(0, "||1", 0);
    Ask.rangeFails(0, "1||", 3);
    Ask.rangeFails(0, "1||||2", 3);
    Ask.rangeFails(0, "1|||2", 3);
    Ask.rangeFails(0, "1|2", 2);
    Ask.rangeFails(0, "1| |2", 2);
    Ask.rangeFails(0, "1|", 2);
    Ask.rangeFails(0, "|", 0);
    Ask.rangeFails(0, "1 || || 2", 5);
    Ask.rangeFails(0, "1 or 2", 2);
    Ask.rangeFails(0, "1 && 2", 2);
    Ask.rangeFails(0, "1,2", 1);
  }

  private static void terms() {
    Probe.sentence("TERMS with blanks between: what is in all of them");
    Ask.means(0, ">=1.0.0 <3.0.0 <2.0.0 >1.0.0", ">1.0.0 <2.0.0");
    Ask.means(0, "1.0.0 1.0.0", "=1.0.0");
    Ask.means(0, "1.0.0 2.0.0", "!");
    Ask.means(0, "1 2 || 3.0.0", "=3.0.0");
    Ask.means(0, "* * *", "*");
    Ask.means(0, "<2 x >1.2 X *", ">=1.3.0 <2.0.0-0");
    Ask.means(0, ">1    <2", "!");
    Ask.means(0, ">1    <3", ">=2.0.0 <3.0.0-0");
    Ask.rangeFails(0, ">1<3", 2);
    Ask.rangeFails(0, "**", 1);
    Ask.rangeFails(0, "*1", 1);
    Ask.rangeFails(0, "x*", 1);
    Ask.rangeFails(0, "1.0.0>1", 5);
    Ask.rangeFails(1, "1>2", 1);
    Ask.rangeFails(2, "2024.01.01<2024.01.02", 10);
  }

  private static void blanks() {
    Probe.sentence("Blanks (32) may be about || , and at both ends");
    for (String text : new String[] {"1.0.0||2.0.0", "1.0.0 ||2.0.0", "1.0.0|| 2.0.0", "1.0.0 || 2.0.0", "  1.0.0   ||    2.0.0     "}) {
      Ask.means(0, text, "=1.0.0 || =2.0.0");
    }
    for (String text : new String[] {"*", " *", "* ", "   *   "}) {
      Ask.means(1, text, "*");
    }
    for (String text : new String[] {"!", " !", "! ", "   !   "}) {
      Ask.means(2, text, "!");
    }
    Ask.rangeFails(0, " ", 1);
    Ask.rangeFails(0, "     ", 5);
    Ask.rangeFails(0, "1 || ", 5);
    Ask.rangeFails(0, " || 1", 1);
    Ask.rangeFails(0, "1 ||\t2", 4);
    Ask.rangeFails(0, "\t1", 0);
    Ask.rangeFails(0, "1\n", 1);
    Ask.fails(0, " 1.2.3", 0);
    Ask.fails(0, "1.2.3 ", 5);
    Ask.fails(1, " 1", 0);
    Ask.fails(2, "2024.01.01 ", 10);
  }

  private static void all() {
    Probe.sentence("A TERM: * (all)");
    for (int order = 0; order <= 2; order++) {
      Ask.means(order, "*", "*");
      for (String sign : new String[] {"=", "<", "<=", ">", ">="}) {
        Ask.rangeFails(order, sign + "*", sign.length());
      }
      Ask.rangeFails(order, "*.1", 1);
      Ask.rangeFails(order, "* - 1", 2);
    }
    Ask.in(0, "*", "0.0.0", true);
    Ask.in(1, "*", "0~~", true);
    Ask.in(2, "*", "9999.12.31.99", true);
  }

  private static void signsInFront() {
    Probe.sentence("or a VERSION with one in front of it of = < <= > >= , or none (like = )");
    String[] versions = {"1.2.3", "1:2-3", "2024.02.29"};
    for (int order = 0; order <= 2; order++) {
      String version = versions[order];
      Ask.means(order, version, "=" + version);
      for (String sign : new String[] {"=", "<", "<=", ">", ">="}) {
        Ask.means(order, sign + version, sign + version);
      }
      for (String two : new String[] {"==", "=<", "=>", "<<", "<>", "><", ">>"}) {
        Ask.rangeFails(order, two + version, 1);
      }
      for (String three : new String[] {"<==", ">==", "<=<", ">=>"}) {
        Ask.rangeFails(order, three + version, 2);
      }
      for (char c = 33; c <= 126; c++) {
        boolean digit = c >= '0' && c <= '9';
        boolean stands = "=<>".indexOf(c) >= 0 || order == 0 && "^~".indexOf(c) >= 0;
        if (!digit && "*xX".indexOf(c) < 0) {
          Probe.due("order " + order + ": range " + c + version, new Probe(order).range(c + version), stands ? 0 : c == '!' ? -2 : -1);
        }
      }
    }
  }

  private static void noBlankBetween() {
    Probe.sentence("no blank between");
    String[] versions = {"1.2.3", "1:2-3", "2024.02.29"};
    for (int order = 0; order <= 2; order++) {
      for (String sign : new String[] {"=", "<", "<=", ">", ">="}) {
        Ask.rangeFails(order, sign + " " + versions[order], sign.length());
        Ask.rangeFails(order, "* " + sign + " " + versions[order], sign.length() + 2);
      }
      Ask.rangeFails(order, "< =" + versions[order], 1);
      Ask.rangeFails(order, "> =" + versions[order], 1);
    }
    Ask.rangeFails(0, "^ 1", 1);
    Ask.rangeFails(0, "~ 1", 1);
    Ask.rangeFails(0, "1. 2", 2);
    Ask.rangeFails(0, "1.2.3- a", 6);
  }

  private static void hyphen() {
    Probe.sentence("A - B is what isn't below A nor above B");
    Ask.means(0, "1.2.3 - 2.3.4", ">=1.2.3 <=2.3.4");
    Ask.means(0, "1.2.3 - 1.2.3", "=1.2.3");
    Ask.means(0, "2.0.0 - 1.0.0", "!");
    Ask.means(0, "1.2.3-a+b - 1.2.3-b+c", ">=1.2.3-a <=1.2.3-b");
    Ask.means(1, "1:1.0-1 - 2:0", ">=1:1.0-1 <=2:0");
    Ask.means(2, "2024.01.01 - 2024.01.01.7", ">=2024.01.01 <=2024.01.01.7");
    Ask.means(0, "1.0.0 - 2.0.0 || 2.5.0 || 3.0.0 - 4.0.0", ">=1.0.0 <=2.0.0 || =2.5.0 || >=3.0.0 <=4.0.0");
    Ask.means(0, "1.0.0 - 2.0.0||3.0.0", ">=1.0.0 <=2.0.0 || =3.0.0");
    Ask.in(0, "1.2.3 - 2.3.4", "1.2.3", true);
    Ask.in(0, "1.2.3 - 2.3.4", "2.3.4", true);
    Ask.in(0, "1.2.3 - 2.3.4", "1.2.2", false);
    Ask.in(0, "1.2.3 - 2.3.4", "2.3.5", false);
  }

  private static void hyphenBehind() {
    Probe.sentence("(the - stands behind a VERSION without sign, as the first TERM, and a blank");
    for (String sign : new String[] {"=", "<", "<=", ">", ">=", "^", "~"}) {
      Ask.rangeFails(0, sign + "1 - 2", sign.length() + 2);
    }
    Ask.rangeFails(0, "* - 2", 2);
    Ask.rangeFails(0, "x - 2", 2);
    Ask.rangeFails(0, "X - 2", 2);
    Ask.rangeFails(0, "- 2", 0);
    Ask.rangeFails(0, "1 2 - 3", 4);
    Ask.rangeFails(0, "* 2 - 3", 4);
    Ask.rangeFails(0, "1 || 2 3 - 4", 9);
    Ask.rangeFails(0, "1 || - 4", 5);
    Ask.rangeFails(0, "1 || * - 4", 7);
    Ask.rangeFails(0, "1 || =2 - 4", 8);
    Ask.rangeFails(1, "1 - 2 || * - 4", 11);
    Ask.rangeFails(0, "1- 2", 1);
    Ask.rangeFails(0, "1.2.3- 2", 6);
    Ask.rangeFails(0, "1.x- 2", 3);
    Ask.rangeFails(1, "1- 2", 2);
    Ask.rangeFails(2, "2024.01.01- 2024.01.02", 10);
    Ask.means(0, "9 || 1 - 2", ">=1.0.0 <3.0.0-0 || >=9.0.0 <10.0.0-0");
    Ask.means(0, "1   - 2", ">=1.0.0 <3.0.0-0");
  }

  private static void hyphenBefore() {
    Probe.sentence("what follows must be a blank, then a digit)");
    Ask.rangeFails(0, "1 -", 3);
    Ask.rangeFails(0, "1 - ", 4);
    Ask.rangeFails(0, "1 -2", 3);
    Ask.rangeFails(0, "1 -- 2", 3);
    Ask.rangeFails(0, "1 -a", 3);
    Ask.rangeFails(0, "1 -||2", 3);
    for (String other : new String[] {"x", "X", "*", "=2", "<2", ">=2", "^2", "~2", "- 2", "||2", "a", "!", ".2"}) {
      Ask.rangeFails(0, "1 - " + other, 4);
    }
    Ask.rangeFails(1, "1 -2", 3);
    Ask.rangeFails(1, "1 - a", 4);
    Ask.rangeFails(1, "1 - =2", 4);
    Ask.rangeFails(2, "2024.01.01 -2024.01.02", 12);
    Ask.rangeFails(2, "2024.01.01 - *", 13);
    Ask.rangeFails(0, "1 - 2 3", 6);
    Ask.rangeFails(0, "1 - 2 <3", 6);
    Ask.rangeFails(0, "1 - 2 *", 6);
    Ask.rangeFails(0, "1 - 2 - 3", 6);
    Ask.rangeFails(0, "1 - 2 || 3 - 4 5", 15);
    Ask.rangeFails(0, "1 - 2<3", 5);
  }

  private static void onlyInOrder0() {
    Probe.sentence("In order 0 also ^ and ~ in front, and PARTIAL versions; x or X alone is like *");
    Ask.means(0, "x", "*");
    Ask.means(0, "X", "*");
    Ask.means(0, " x || 1", "*");
    Ask.means(0, "x 1.0.0", "=1.0.0");
    for (String sign : new String[] {"=", "<", "<=", ">", ">=", "^", "~"}) {
      Ask.rangeFails(0, sign + "x", sign.length());
      Ask.rangeFails(0, sign + "X", sign.length());
    }
    Ask.rangeFails(0, "x.x", 1);
    Ask.rangeFails(0, "x.1", 1);
    Ask.rangeFails(0, "xX", 1);
    for (int order = 1; order <= 2; order++) {
      Ask.rangeFails(order, "x", 0);
      Ask.rangeFails(order, "X", 0);
      Ask.rangeFails(order, "^2024.01.01", 0);
      Ask.rangeFails(order, "~2024.01.01", 0);
      Ask.rangeFails(order, "* x", 2);
    }
    Ask.rangeFails(1, "1.*", 2);
    Ask.rangeFails(2, "2024", 4);
    Ask.rangeFails(2, "2024.01", 7);
    Ask.rangeFails(2, "2024.x", 5);
    Ask.rangeFails(2, "2024.01.*", 8);
    // In order 1 these are letters and numbers like others.
    Ask.means(1, "1.x", "=1.x");
    Ask.means(1, "1", "=1");
  }

  private static void partialForms() {
    Probe.sentence("NUMBER, NUMBER . NUMBER, or with x, X, * in place of the second or third NUMBER");
    for (String text : new String[] {"7", "7.x", "7.X", "7.*", "7.x.x", "7.x.X", "7.X.*", "7.*.*", "7.*.x"}) {
      Ask.means(0, text, ">=7.0.0 <8.0.0-0");
    }
    for (String text : new String[] {"7.8", "7.8.x", "7.8.X", "7.8.*"}) {
      Ask.means(0, text, ">=7.8.0 <7.9.0-0");
    }
    Ask.means(0, "7.8.9", "=7.8.9");
    Ask.rangeFails(0, "7.", 2);
    Ask.rangeFails(0, "7.8.", 4);
    Ask.rangeFails(0, "7.a", 2);
    Ask.rangeFails(0, "7.8.a", 4);
    Ask.rangeFails(0, "7..x", 2);
    Ask.rangeFails(0, "07", 1);
    Ask.rangeFails(0, "7.08", 3);
    Ask.rangeFails(0, "7.8.9.x", 5);
    Ask.rangeFails(0, "7x", 1);
    Ask.rangeFails(0, "7.8x", 3);
  }

  private static void behindWild() {
    Probe.sentence("(behind one of these nothing but . and another one of them may come)");
    for (String wild : new String[] {"x", "X", "*"}) {
      Ask.rangeFails(0, "7." + wild + ".8", 4);
      Ask.rangeFails(0, "7." + wild + ".0", 4);
      Ask.rangeFails(0, "7." + wild + ".", 4);
      Ask.rangeFails(0, "7." + wild + ". ", 4);
      Ask.rangeFails(0, "7." + wild + ".a", 4);
      Ask.rangeFails(0, "7." + wild + "x", 3);
      Ask.rangeFails(0, "7." + wild + "8", 3);
      Ask.rangeFails(0, "7." + wild + "*", 3);
      Ask.rangeFails(0, "7." + wild + ".x.x", 5);
      Ask.rangeFails(0, "7." + wild + ".x8", 5);
      Ask.rangeFails(0, "7.8." + wild + ".x", 5);
      Ask.rangeFails(0, "7.8." + wild + "9", 5);
      Ask.rangeFails(0, "1 - 7." + wild + ".8", 8);
    }
  }

  private static void withoutMarks() {
    Probe.sentence("PARTIAL versions, without MARKS");
    for (String text : new String[] {"7", "7.8", "7.x", "7.x.*", "7.8.X"}) {
      Ask.rangeFails(0, text + "-a", text.length());
      Ask.rangeFails(0, text + "-0", text.length());
      Ask.rangeFails(0, text + "+b", text.length());
      Ask.rangeFails(0, "^" + text + "-a", text.length() + 1);
      Ask.rangeFails(0, "1 - " + text + "-a", text.length() + 4);
    }
  }
}
