import java.util.regex.Matcher;
import java.util.regex.Pattern;

/**
 * What can stand, by regular expressions: a text stands if the expression matches; else the place that
 * is answered is how long its longest beginning is that something could follow to make it match.
 */
final class Grammar {
  private static final String NUMBER = "(?:0|[1-9][0-9]*)";
  private static final String NAMES = "[0-9A-Za-z-]+(?:\\.[0-9A-Za-z-]+)*";
  private static final String WILD = "[xX*]";
  private static final String[] VERSION = {
    NUMBER + "\\." + NUMBER + "\\." + NUMBER + "(?:-" + NAMES + ")?(?:\\+" + NAMES + ")?",
    "(?:" + NUMBER + ":)?[0-9](?:[0-9A-Za-z.+~-]*[0-9A-Za-z.+~])?",
    "[0-9]{4}\\.[0-9]{2}\\.[0-9]{2}(?:\\." + NUMBER + ")?"
  };
  private static final String PARTIAL = NUMBER + "(?:\\.(?:" + WILD + "(?:\\." + WILD + ")?|" + NUMBER + "(?:\\." + WILD + ")?))?";
  private static final Pattern MARKS = Pattern.compile("(?<![0-9A-Za-z.+-])[0-9]+\\.[0-9]+\\.[0-9]+-(" + NAMES + ")");
  private static final Pattern DATE = Pattern.compile("(?<![0-9.])([0-9]{4})\\.([0-9]{2})(?:\\.([0-9]{2}))?");

  private final int order;
  private final Pattern version;
  private final Pattern range;

  Grammar(int order) {
    this.order = order;
    version = Pattern.compile(VERSION[order]);
    range = Pattern.compile(range(order));
  }

  private static String range(int order) {
    String operand = order == 0 ? "(?:" + VERSION[0] + "|" + PARTIAL + ")" : "(?:" + VERSION[order] + ")";
    String all = order == 0 ? "[*xX]" : "\\*";
    String sign = order == 0 ? "(?:[=^~]|[<>]=?)?" : "(?:=|[<>]=?)?";
    String term = "(?:" + all + "|" + sign + operand + ")";
    String row = "(?:" + operand + " +- +" + operand + "|" + term + "(?: +" + term + ")*)";
    return " *(?:!|" + row + "(?: *\\|\\| *" + row + ")*) *";
  }

  /** 0 if the text is a VERSION, else what read() answers. */
  int ofVersion(String text) {
    return answer(version, text);
  }

  /** 0 if the text is a RANGE, else what range() answers. */
  int ofRange(String text) {
    return answer(range, text);
  }

  private int answer(Pattern pattern, String text) {
    int viable = text.length();
    boolean stands = pattern.matcher(text).matches();
    if (!stands) {
      while (viable > 0 && !isViable(pattern, text.substring(0, viable))) {
        viable--;
      }
    }
    int earlier = earlier(text.substring(0, viable));
    if (earlier >= 0) {
      return -1 - earlier;
    }
    return stands ? 0 : -1 - viable;
  }

  private static boolean isViable(Pattern pattern, String text) {
    Matcher matcher = pattern.matcher(text);
    return matcher.matches() || matcher.hitEnd();
  }

  /** Where a MARK of digits alone begins with a 0, or a date isn't one; -1 if that is nowhere. */
  private int earlier(String text) {
    return order == 0 ? wrongMark(text) : order == 2 ? wrongDate(text) : -1;
  }

  private static int wrongMark(String text) {
    Matcher marks = MARKS.matcher(text);
    while (marks.find()) {
      int place = marks.start(1);
      for (String mark : marks.group(1).split("\\.", -1)) {
        if (mark.matches("0[0-9]+")) {
          return place;
        }
        place += mark.length() + 1;
      }
    }
    return -1;
  }

  private static int wrongDate(String text) {
    Matcher date = DATE.matcher(text);
    while (date.find()) {
      int month = Integer.parseInt(date.group(2));
      if (month < 1 || month > 12) {
        return date.start(2);
      }
      int days = java.time.YearMonth.of(Integer.parseInt(date.group(1)), month).lengthOfMonth();
      if (date.group(3) != null && (Integer.parseInt(date.group(3)) < 1 || Integer.parseInt(date.group(3)) > days)) {
        return date.start(3);
      }
    }
    return -1;
  }
}
