import java.util.regex.Matcher;
import java.util.regex.Pattern;

/**
 * Promises 3 and 6 against regular expressions: a text stands if the expression matches; the place that
 * is answered is how long its longest beginning is that something could follow to make it match.
 */
public final class GrammarModelTest {
  private static final String NUMBER = "(?:0|[1-9][0-9]*)";
  private static final String NAMES = "[0-9A-Za-z-]+(?:\\.[0-9A-Za-z-]+)*";
  private static final String WILD = "[xX*]";
  private static final String[] VERSION = {
    NUMBER + "\\." + NUMBER + "\\." + NUMBER + "(?:-" + NAMES + ")?(?:\\+" + NAMES + ")?",
    "(?:" + NUMBER + ":)?[0-9](?:[0-9A-Za-z.+~-]*[0-9A-Za-z.+~])?",
    "[0-9]{4}\\.[0-9]{2}\\.[0-9]{2}(?:\\." + NUMBER + ")?"
  };
  private static final String PARTIAL = NUMBER + "(?:\\.(?:" + WILD + "(?:\\." + WILD + ")?|" + NUMBER + "(?:\\." + WILD + ")?))?";
  private static final Pattern MARKS = Pattern.compile("(?<![0-9A-Za-z.+-])[0-9]+\\.[0-9]+\\.[0-9]+-(" + NAMES + ")");
  private static final Pattern DATE = Pattern.compile("(?<![0-9.])([0-9]{4})\\.([0-9]{2})(?:\\.([0-9]{2}))?");

  public static void main(String[] args) {
    for (int order = 0; order <= 2; order++) {
      Texts texts = new Texts(order, 7 + order);
      Pattern version = Pattern.compile(VERSION[order]);
      Pattern range = Pattern.compile(range(order));
      for (int i = 0; i < 20000; i++) {
        String one = texts.disturbed(texts.version());
        Probe.due("order " + order + ": read " + one, Math.min(0, new Probe(order).read(one)), want(order, version, one));
        String many = texts.disturbed(rangeText(texts));
        if (many.length() <= 200) {
          Probe.due("order " + order + ": range " + many, Math.min(0, new Probe(order).range(many)), want(order, range, many));
        }
      }
    }
    Probe.end();
  }

  private static String range(int order) {
    String operand = order == 0 ? "(?:" + VERSION[0] + "|" + PARTIAL + ")" : "(?:" + VERSION[order] + ")";
    String all = order == 0 ? "[*xX]" : "\\*";
    String sign = order == 0 ? "(?:[=^~]|[<>]=?)?" : "(?:=|[<>]=?)?";
    String term = "(?:" + all + "|" + sign + operand + ")";
    String row = "(?:" + operand + " +- +" + operand + "|" + term + "(?: +" + term + ")*)";
    return " *(?:!|" + row + "(?: *\\|\\| *" + row + ")*) *";
  }

  private static String rangeText(Texts texts) {
    StringBuilder text = new StringBuilder(texts.blanks(0));
    int rows = 1 + texts.random.nextInt(3);
    for (int i = 0; i < rows; i++) {
      text.append(i == 0 ? "" : "||" + texts.blanks(0));
      if (texts.random.nextInt(3) == 0) {
        text.append(texts.operand()).append(texts.blanks(1)).append('-').append(texts.blanks(1)).append(texts.operand());
      } else {
        int terms = 1 + texts.random.nextInt(3);
        for (int k = 0; k < terms; k++) {
          text.append(k == 0 ? "" : texts.blanks(1));
          text.append(texts.random.nextInt(8) == 0 ? texts.oneOf("*", "x", "!") : texts.sign() + texts.operand());
        }
      }
      text.append(texts.blanks(0));
    }
    return text.toString();
  }

  /** 0 if the text stands. */
  private static int want(int order, Pattern pattern, String text) {
    int viable = text.length();
    boolean stands = pattern.matcher(text).matches();
    if (!stands) {
      while (viable > 0 && !isViable(pattern, text.substring(0, viable))) {
        viable--;
      }
    }
    int earlier = earlier(order, text.substring(0, viable));
    if (earlier >= 0) {
      return -1 - earlier;
    }
    return stands ? 0 : -1 - viable;
  }

  private static boolean isViable(Pattern pattern, String text) {
    Matcher matcher = pattern.matcher(text);
    return matcher.matches() || matcher.hitEnd();
  }

  /** Where a MARK of digits alone begins with a 0, or a date isn't one; -1 if that is nowhere. */
  private static int earlier(int order, String text) {
    if (order == 0) {
      Matcher marks = MARKS.matcher(text);
      while (marks.find()) {
        int place = marks.start(1);
        for (String mark : marks.group(1).split("\\.", -1)) {
          if (mark.matches("0[0-9]+")) {
            return place;
          }
          place += mark.length() + 1;
        }
      }
    }
    if (order == 2) {
      Matcher date = DATE.matcher(text);
      while (date.find()) {
        int month = Integer.parseInt(date.group(2));
        if (month < 1 || month > 12) {
          return date.start(2);
        }
        int days = java.time.YearMonth.of(Integer.parseInt(date.group(1)), month).lengthOfMonth();
        if (date.group(3) != null && (Integer.parseInt(date.group(3)) < 1 || Integer.parseInt(date.group(3)) > days)) {
          return date.start(3);
        }
      }
    }
    return -1;
  }
}
