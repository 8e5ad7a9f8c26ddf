/** Questions that many tests ask, each of a new object. */
final class Ask {
  /** Numbers that are never one of few versions or sets. */
  static final int[] NONE_SUCH = {-1, -2, -1000, 199, 200, 201, 299, 300, 301, Integer.MAX_VALUE, Integer.MIN_VALUE};

  private Ask() {}

  static void stands(int order, String... texts) {
    for (String text : texts) {
      Probe.due("order " + order + ": read " + text, new Probe(order).read(text), 0);
    }
  }

  /** The place is where the text can't stand; its length if it ends too early. */
  static void fails(int order, String text, int place) {
    Probe.due("order " + order + ": read " + text, new Probe(order).read(text), -1 - place);
  }

  /** What the set of a range prints shows its spans. */
  static void means(int order, String range, String want) {
    Probe.due("order " + order + ": range " + range, new Probe(order).shown(range), want);
  }

  static void rangeFails(int order, String range, int place) {
    Probe.due("order " + order + ": range " + range, new Probe(order).range(range), -1 - place);
  }

  static void compared(int order, String a, String b, int want) {
    Probe probe = new Probe(order);
    Probe.due("read " + a, probe.read(a), 0);
    Probe.due("read " + b, probe.read(b), 1);
    Probe.due("compare " + a + ", " + b, probe.orders.compare(0, 1), want);
    Probe.due("compare " + b + ", " + a, probe.orders.compare(1, 0), -want);
  }

  /** Each is less than all behind it. */
  static void rising(int order, String... texts) {
    for (int a = 0; a < texts.length; a++) {
      for (int b = a; b < texts.length; b++) {
        compared(order, texts[a], texts[b], Integer.compare(a, b));
      }
    }
  }

  static void like(int order, String... texts) {
    for (String a : texts) {
      for (String b : texts) {
        compared(order, a, b, 0);
      }
    }
  }

  static void in(int order, String range, String version, boolean want) {
    Probe probe = new Probe(order);
    Probe.due("range " + range, probe.range(range), 0);
    Probe.due("read " + version, probe.read(version), 0);
    Probe.due(version + " in " + range, probe.orders.in(0, 0), want);
  }

  /** What is in both of two ranges' sets, printed; they themselves stay. */
  static void both(int order, String a, String b, String want) {
    Probe probe = new Probe(order);
    probe.range(a);
    probe.range(b);
    Probe.due("both of " + a + " and " + b, probe.orders.both(0, 1), 2);
    Probe.due("both of " + a + " and " + b + ", printed", probe.printed(2), want);
    Probe.due("the first stays", probe.printed(0), new Probe(order).shown(a));
    Probe.due("the second stays", probe.printed(1), new Probe(order).shown(b));
  }

  static void not(int order, String range, String want) {
    Probe probe = new Probe(order);
    probe.range(range);
    Probe.due("not " + range, probe.orders.not(0), 1);
    Probe.due("not " + range + ", printed", probe.printed(1), want);
    Probe.due("the set stays", probe.printed(0), new Probe(order).shown(range));
  }

  /** Versions of order 1, one alone each, from one number to below another. */
  static String points(int from, int to) {
    StringBuilder text = new StringBuilder();
    for (int i = from; i < to; i++) {
      text.append(i == from ? "" : "||").append(i);
    }
    return text.toString();
  }
}
