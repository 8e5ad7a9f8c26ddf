import java.math.BigInteger;
import java.util.ArrayList;
import java.util.List;

/** The orders and the sets once more, in the plainest way that the Java library offers. */
final class Model {
  /** An end of a span: its version as written (null if there is none), and whether it belongs to it. */
  record End(String text, boolean with) {}

  record Range(End low, End high) {}

  static final End OPEN = new End(null, false);
  static final Range ALL = new Range(OPEN, OPEN);

  final int order;

  Model(int order) {
    this.order = order;
  }

  int compare(String a, String b) {
    return Integer.signum(order == 0 ? semantic(a, b) : order == 1 ? packages(a, b) : dates(a, b));
  }

  private static int semantic(String a, String b) {
    String[] first = a.replaceAll("\\+.*", "").split("-", 2);
    String[] second = b.replaceAll("\\+.*", "").split("-", 2);
    int order = dates(first[0], second[0]);
    if (order != 0 || first.length != second.length) {
      return order != 0 ? order : second.length - first.length;
    }
    return first.length == 1 ? 0 : marks(first[1].split("\\."), second[1].split("\\."));
  }

  private static int marks(String[] a, String[] b) {
    for (int i = 0; i < a.length && i < b.length; i++) {
      boolean first = a[i].matches("[0-9]+");
      boolean second = b[i].matches("[0-9]+");
      int order = first && second ? number(a[i]).compareTo(number(b[i])) : first ? -1 : second ? 1 : a[i].compareTo(b[i]);
      if (order != 0) {
        return order;
      }
    }
    return a.length - b.length;
  }

  /** NUMBERS with . between; one that isn't there is 0. */
  private static int dates(String a, String b) {
    String[] first = a.split("\\.");
    String[] second = b.split("\\.");
    for (int i = 0; i < 4; i++) {
      int order = number(i < first.length ? first[i] : "").compareTo(number(i < second.length ? second[i] : ""));
      if (order != 0) {
        return order;
      }
    }
    return 0;
  }

  private static BigInteger number(String digits) {
    return digits.isEmpty() ? BigInteger.ZERO : new BigInteger(digits);
  }

  private static int packages(String a, String b) {
    int epochs = number(a.contains(":") ? a.replaceAll(":.*", "") : "").compareTo(number(b.contains(":") ? b.replaceAll(":.*", "") : ""));
    String first = a.replaceAll(".*:", "");
    String second = b.replaceAll(".*:", "");
    int mains = inTurn(first.replaceAll("-[^-]*$", ""), second.replaceAll("-[^-]*$", ""));
    int revisions = inTurn(first.contains("-") ? first.replaceAll(".*-", "") : "", second.contains("-") ? second.replaceAll(".*-", "") : "");
    return epochs != 0 ? epochs : mains != 0 ? mains : revisions;
  }

  private static int inTurn(String a, String b) {
    String first = a;
    String second = b;
    while (!first.isEmpty() || !second.isEmpty()) {
      String noDigits = first.replaceAll("[0-9].*", "");
      String otherNoDigits = second.replaceAll("[0-9].*", "");
      for (int i = 0; i < Math.max(noDigits.length(), otherNoDigits.length()); i++) {
        int order = rank(noDigits, i) - rank(otherNoDigits, i);
        if (order != 0) {
          return order;
        }
      }
      first = first.substring(noDigits.length());
      second = second.substring(otherNoDigits.length());
      String digits = first.replaceAll("[^0-9].*", "");
      String otherDigits = second.replaceAll("[^0-9].*", "");
      int order = number(digits).compareTo(number(otherDigits));
      if (order != 0) {
        return order;
      }
      first = first.substring(digits.length());
      second = second.substring(otherDigits.length());
    }
    return 0;
  }

  private static int rank(String text, int i) {
    if (i >= text.length()) {
      return 0;
    }
    char c = text.charAt(i);
    return c == '~' ? -1 : Character.isLetter(c) ? c : c + 1000;
  }

  /** What a TERM means; * (or x, X) is told by an empty operand. */
  Range term(String sign, String operand) {
    if (operand.isEmpty()) {
      return ALL;
    }
    String[] given = order == 0 ? operand.replaceAll("[-+].*", "").replaceAll("(\\.[xX*])+$", "").split("\\.") : new String[3];
    String plain = printed(operand);
    if (given.length == 3) {
      switch (sign) {
        case "<":
          return new Range(OPEN, new End(plain, false));
        case "<=":
          return new Range(OPEN, new End(plain, true));
        case ">":
          return new Range(new End(plain, false), OPEN);
        case ">=":
          return new Range(new End(plain, true), OPEN);
        case "~":
          return new Range(new End(plain, true), new End(above(given, 1) + "-0", false));
        case "^":
          return new Range(new End(plain, true), new End(above(given, caret(given)) + "-0", false));
        default:
          return new Range(new End(plain, true), new End(plain, true));
      }
    }
    String filled = given[0] + (given.length == 2 ? "." + given[1] + ".0" : ".0.0");
    String end = above(given, given.length - 1);
    switch (sign) {
      case "<":
        return new Range(OPEN, new End(filled + "-0", false));
      case "<=":
        return new Range(OPEN, new End(end + "-0", false));
      case ">":
        return new Range(new End(end, true), OPEN);
      case ">=":
        return new Range(new End(filled, true), OPEN);
      case "^":
        return new Range(new End(filled, true), new End(above(given, caret(given)) + "-0", false));
      default:
        return new Range(new End(filled, true), new End(end + "-0", false));
    }
  }

  private static int caret(String[] given) {
    for (int i = 0; i < given.length; i++) {
      if (!given[i].equals("0")) {
        return i;
      }
    }
    return given.length - 1;
  }

  private static String above(String[] given, int place) {
    StringBuilder text = new StringBuilder();
    for (int i = 0; i < 3; i++) {
      String number = i < place ? given[i] : i == place ? number(given[i]).add(BigInteger.ONE).toString() : "0";
      text.append(i == 0 ? "" : ".").append(number);
    }
    return text.toString();
  }

  Range hyphen(String a, String b) {
    return new Range(term("", a).low(), term("", b).high());
  }

  /** Where an end lies: below (-1), at (0) or above (1) the place of its version. */
  private int lows(End a, End b) {
    if (a.text() == null || b.text() == null) {
      return (a.text() == null ? 0 : 1) - (b.text() == null ? 0 : 1);
    }
    int order = compare(a.text(), b.text());
    return order != 0 ? order : (a.with() ? 0 : 1) - (b.with() ? 0 : 1);
  }

  private int highs(End a, End b) {
    if (a.text() == null || b.text() == null) {
      return (a.text() == null ? 1 : 0) - (b.text() == null ? 1 : 0);
    }
    int order = compare(a.text(), b.text());
    return order != 0 ? order : (a.with() ? 1 : 0) - (b.with() ? 1 : 0);
  }

  Range common(Range a, Range b) {
    return new Range(lows(a.low(), b.low()) >= 0 ? a.low() : b.low(), highs(a.high(), b.high()) <= 0 ? a.high() : b.high());
  }

  boolean isVoid(Range a) {
    if (a.low().text() == null || a.high().text() == null) {
      return false;
    }
    int order = compare(a.low().text(), a.high().text());
    return order > 0 || order == 0 && !(a.low().with() && a.high().with());
  }

  private boolean apart(Range a, Range b) {
    if (a.high().text() == null || b.low().text() == null) {
      return false;
    }
    int order = compare(a.high().text(), b.low().text());
    return order < 0 || order == 0 && !a.high().with() && !b.low().with();
  }

  /** Rows joined: groups that hang together, of each the least low and the greatest high, the earliest of like ones. */
  List<Range> joined(List<Range> rows) {
    List<Range> left = new ArrayList<>(rows);
    left.removeIf(this::isVoid);
    List<Range> made = new ArrayList<>();
    while (!left.isEmpty()) {
      List<Range> group = new ArrayList<>(List.of(left.get(0)));
      for (boolean more = true; more;) {
        more = false;
        for (Range row : left) {
          if (!holds(group, row) && group.stream().anyMatch(g -> !apart(g, row) && !apart(row, g))) {
            group.add(row);
            more = true;
          }
        }
      }
      End low = null;
      End high = null;
      for (Range row : left) {
        if (holds(group, row)) {
          low = low == null || lows(row.low(), low) < 0 ? row.low() : low;
          high = high == null || highs(row.high(), high) > 0 ? row.high() : high;
        }
      }
      left.removeIf(row -> holds(group, row));
      made.add(new Range(low, high));
    }
    made.sort((a, b) -> lows(a.low(), b.low()));
    return made;
  }

  private static boolean holds(List<Range> group, Range row) {
    return group.stream().anyMatch(g -> g == row);
  }

  List<Range> both(List<Range> a, List<Range> b) {
    List<Range> made = new ArrayList<>();
    for (Range first : a) {
      for (Range second : b) {
        Range shared = common(first, second);
        if (!isVoid(shared)) {
          made.add(shared);
        }
      }
    }
    return made;
  }

  /** What is in none of the spans: of each, what is below it or above it, and all of these at once. */
  List<Range> not(List<Range> a) {
    List<Range> made = new ArrayList<>(List.of(ALL));
    for (Range span : a) {
      List<Range> outside = new ArrayList<>();
      if (span.low().text() != null) {
        outside.add(new Range(OPEN, new End(span.low().text(), !span.low().with())));
      }
      if (span.high().text() != null) {
        outside.add(new Range(new End(span.high().text(), !span.high().with()), OPEN));
      }
      made = both(made, outside);
    }
    return made;
  }

  boolean in(List<Range> set, String version) {
    for (Range span : set) {
      Range shared = common(span, new Range(new End(version, true), new End(version, true)));
      if (!isVoid(shared) && (!marked(version) || admits(span.low(), version) || admits(span.high(), version))) {
        return true;
      }
    }
    return false;
  }

  private boolean marked(String version) {
    return order == 0 && printed(version).contains("-");
  }

  private boolean admits(End end, String version) {
    return end.text() != null && marked(end.text()) && end.text().replaceAll("-.*", "").equals(version.replaceAll("[-+].*", ""));
  }

  String printed(String version) {
    return order == 0 ? version.replaceAll("\\+.*", "") : version;
  }

  String printed(List<Range> set) {
    List<String> spans = new ArrayList<>();
    for (Range span : set) {
      String low = span.low().text() == null ? "" : (span.low().with() ? ">=" : ">") + span.low().text();
      String high = span.high().text() == null ? "" : (span.high().with() ? "<=" : "<") + span.high().text();
      boolean single = !low.isEmpty() && !high.isEmpty() && compare(span.low().text(), span.high().text()) == 0;
      String both = (low + " " + high).trim();
      spans.add(single ? "=" + span.low().text() : both.isEmpty() ? "*" : both);
    }
    return spans.isEmpty() ? "!" : String.join(" || ", spans);
  }
}
