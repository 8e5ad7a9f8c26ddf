/** PRINTED, sentence by sentence. */
public final class PrintedEdgeTest {
  public static void main(String[] args) {
    between();
    all();
    none();
    alone();
    ends();
    withoutPlus();
    epochs();
    numbers();
    howMany();
    readAgain();
    readAgainOf200();
    Probe.end();
  }

  private static void between() {
    Probe.sentence("spans with \" || \" between");
    Ask.means(0, "1.0.0||2.0.0", "=1.0.0 || =2.0.0");
    Ask.means(1, "<1||2||3||>4", "<1 || =2 || =3 || >4");
    Ask.means(0, "1.0.0", "=1.0.0");
  }

  private static void all() {
    Probe.sentence("* for all");
    for (int order = 0; order <= 2; order++) {
      Ask.means(order, "*", "*");
      Ask.not(order, "!", "*");
      Ask.both(order, "*", "*", "*");
    }
    Ask.means(0, "<1.0.0 || >=1.0.0", "*");
    Ask.means(1, "<=1.0 || >1.00", "*");
    Ask.means(2, "<2024.01.01 || >2023.01.01", "*");
  }

  private static void none() {
    Probe.sentence("! if there are none");
    for (int order = 0; order <= 2; order++) {
      Ask.means(order, "!", "!");
      Ask.not(order, "*", "!");
      Ask.both(order, "!", "*", "!");
    }
    Ask.means(0, "1.0.0 2.0.0", "!");
    Ask.means(1, ">2 <1 || >1 <1", "!");
  }

  private static void alone() {
    Probe.sentence("= and the version if it is one alone");
    Ask.means(0, "1.2.3-a", "=1.2.3-a");
    Ask.means(0, ">=1.2.3 <=1.2.3", "=1.2.3");
    Ask.means(0, "1.2.3 - 1.2.3", "=1.2.3");
    Ask.both(0, "<=1.2.3", ">=1.2.3", "=1.2.3");
    Ask.not(0, "<1.2.3 || >1.2.3", "=1.2.3");
    Ask.means(1, "1:2-3", "=1:2-3");
    Ask.means(2, ">=2024.01.01 <=2024.01.01", "=2024.01.01");
    // Not alone, though next to each other.
    Ask.means(0, ">=1.2.3 <=1.2.4", ">=1.2.3 <=1.2.4");
    Ask.means(0, ">=1.2.3-0 <=1.2.3", ">=1.2.3-0 <=1.2.3");
    // Its ends written differently, the beginning is printed.
    Ask.means(1, ">=1.0 <=1.00", "=1.0");
    Ask.means(1, "<=1.00 >=1.0", "=1.0");
  }

  private static void ends() {
    Probe.sentence("else > or >= and the beginning, a blank, < or <= and the end (what isn't there, isn't told)");
    for (String range : new String[] {">1.0.0", ">=1.0.0", "<1.0.0", "<=1.0.0", ">1.0.0 <2.0.0", ">=1.0.0 <2.0.0", ">1.0.0 <=2.0.0", ">=1.0.0 <=2.0.0",
      ">1.0.0-a <1.0.0-b", "<1.0.0 || >2.0.0"}) {
      Ask.means(0, range, range);
    }
    Ask.means(0, "<2.0.0 >1.0.0", ">1.0.0 <2.0.0");
    Ask.means(0, "<=2.0.0    >=1.0.0", ">=1.0.0 <=2.0.0");
    Ask.means(0, "1.0.0 - 2.0.0", ">=1.0.0 <=2.0.0");
  }

  private static void withoutPlus() {
    Probe.sentence("versions without what is behind +");
    Ask.means(0, "1.2.3+b", "=1.2.3");
    Ask.means(0, ">=1.2.3-a.1+b.c <2.0.0+d", ">=1.2.3-a.1 <2.0.0");
    Ask.means(0, "1.2.3+a - 2.3.4+b-c", ">=1.2.3 <=2.3.4");
    Ask.means(0, "^1.2.3+b", ">=1.2.3 <2.0.0-0");
    Ask.not(0, "1.2.3+b", "<1.2.3 || >1.2.3");
    // In order 1 a + is a sign of the MAIN text or the REVISION like others: without it the set would be another.
    Ask.means(1, "1.0+b-2+c", "=1.0+b-2+c");
  }

  private static void epochs() {
    Probe.sentence("in order 1 with EPOCH if that was written");
    Ask.means(1, "1.0", "=1.0");
    Ask.means(1, "0:1.0", "=0:1.0");
    Ask.means(1, "7:1.0-2", "=7:1.0-2");
    Ask.means(1, ">=0:1.0 <2.0", ">=0:1.0 <2.0");
    Ask.means(1, "007.00-00", "=007.00-00");
    Ask.means(1, "1--~", "=1--~");
  }

  private static void numbers() {
    Probe.sentence("in order 2 with the NUMBER if that was written");
    Ask.means(2, "2024.01.01", "=2024.01.01");
    Ask.means(2, "2024.01.01.0", "=2024.01.01.0");
    Ask.means(2, ">2024.01.01.7 <0999.01.01 || <=0012.03.04.10", "<=0012.03.04.10");
    Ask.means(2, "0001.02.03 - 2024.01.01.0", ">=0001.02.03 <=2024.01.01.0");
  }

  private static void howMany() {
    Probe.sentence("A set is PRINTED: how many signs");
    String[] ranges = {"!", "*", "1", "<1", "1||2", "1:2-3 - 4:5~6"};
    String[] printed = {"!", "*", "=1", "<1", "=1 || =2", ">=1:2-3 <=4:5~6"};
    for (int i = 0; i < ranges.length; i++) {
      Probe probe = new Probe(1);
      probe.range(ranges[i]);
      Probe.due("print of " + ranges[i], probe.orders.print(0), printed[i].length());
      Probe.due("what is printed", probe.printed(0), printed[i]);
    }
  }

  private static void readAgain() {
    Probe.sentence("Read again (of at most 200 signs) it is the same set");
    String[] semantic = {"1.2.3-0", "1.2.3-a", "1.2.3", "1.5.0-a", "1.5.0", "2.0.0-0", "2.0.0-a", "2.0.0", "3.0.0-a", "3.0.0", "0.0.0-0", "0.0.0", "4.0.0-0"};
    for (String range : new String[] {"*", "!", "1", "^1.2.3-a", "~1.2", "<2", ">1.x", "1.2.3-a || 2.0.0", "1 - 2.0.0-a", ">=1.2.3-a+b <3.0.0-b || <0.0.0-0"}) {
      sameSet(0, range, semantic);
    }
    String[] packages = {"1.0~rc1", "1.0", "1.00-0", "1.0+b", "2", "1:0", "0:2-1", "0~"};
    for (String range : new String[] {"1.0", "<1.0~", ">=0:1.0 <1:0", "1.0+b-0 || 2 - 0:2-1", "<=1.00 >=1.0"}) {
      sameSet(1, range, packages);
    }
    String[] dates = {"2024.01.01", "2024.01.01.0", "2024.01.01.7", "2023.12.31", "2024.02.29"};
    for (String range : new String[] {"2024.01.01.0", ">2024.01.01", "2023.12.31 - 2024.01.01.7", "<2024.01.01 || 2024.02.29.0"}) {
      sameSet(2, range, dates);
    }
  }

  /** The set, what it isn't, and both of them, each against what is read again of their print. */
  private static void sameSet(int order, String range, String[] versions) {
    Probe made = new Probe(order);
    made.range(range);
    made.orders.not(0);
    String[] printed = {made.printed(0), made.printed(1)};
    for (int set = 0; set < 2; set++) {
      Probe probe = new Probe(order);
      probe.range(range);
      probe.orders.not(0);
      Probe.due("range " + printed[set], probe.range(printed[set]), 2);
      Probe.due("printed again", probe.printed(2), printed[set]);
      for (int i = 0; i < versions.length; i++) {
        probe.read(versions[i]);
        Probe.due(versions[i] + " in " + printed[set], probe.orders.in(2, i), probe.orders.in(set, i));
      }
      probe.orders.both(2, 1 - set);
      Probe.due("nothing more in " + printed[set], probe.orders.empty(3), true);
    }
  }

  private static void readAgainOf200() {
    Probe.sentence("Read again (of at most 200 signs): of just 200");
    again(1, "<" + "7".repeat(199));
    again(0, ">=1.2.3-" + "a".repeat(192));
    // 28 versions of two digits and one of three, printed with = in front and " || " between.
    String many = "=" + Ask.points(10, 38).replace("||", " || =") + " || =100";
    again(1, many);
  }

  private static void again(int order, String text) {
    Probe.due("how long " + text + " is", text.length(), 200);
    Probe probe = new Probe(order);
    Probe.due("range " + text, probe.range(text), 0);
    Probe.due("print", probe.orders.print(0), 200);
    Probe.due("the last sign", probe.orders.at(199), (int) text.charAt(199));
    Probe.due("no sign behind", probe.orders.at(200), -1);
    Probe.due("range of the print", probe.range(text), 1);
    Probe.due("print of that", probe.orders.print(1), 200);
    Probe other = new Probe(order);
    other.range(text);
    Probe.due("the whole print", other.printed(0), text);
  }
}
