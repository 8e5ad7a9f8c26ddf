import java.util.Random;

/** Random texts of versions and ranges, most of which stand; the same ones in every run. */
final class Texts {
  private static final String[] NUMBERS = {"0", "0", "1", "1", "2", "3", "9", "10", "99", "2147483647", "18446744073709551616"};
  private static final String[] MARKS = {"0", "1", "2", "10", "a", "b", "A", "rc", "a1", "0a", "-", "a-", "01a"};
  private static final String[] MAINS = {"0", "1", "01", "2", "10", "1.0", "1.00", "1.1", "1a", "1a0", "1~", "1~rc1", "1~rc10", "1+b", "1-a"};
  private static final String[] REVISIONS = {"", "", "-0", "-1", "-1~", "-a", "-10"};
  private static final String[] SIGNS = {"", "", "=", "<", "<=", ">", ">="};
  private static final String[] SEMANTIC_SIGNS = {"", "", "=", "<", "<=", ">", ">=", "^", "~"};
  private static final String NOISE = "0019.-+:~^*xXa|<>=! -\t_Zz";

  final Random random;
  final int order;

  Texts(int order, long seed) {
    this.order = order;
    this.random = new Random(seed);
  }

  String version() {
    switch (order) {
      case 0:
        return semantic();
      case 1:
        return (random.nextInt(3) == 0 ? oneOf("0", "1", "2", "10") + ":" : "") + oneOf(MAINS) + oneOf(REVISIONS);
      default:
        return date() + (random.nextInt(2) == 0 ? "." + oneOf(NUMBERS) : "");
    }
  }

  /** Numbers low, so that versions with MARKS meet the ends of spans. */
  private String semantic() {
    String text = random.nextInt(3) + "." + random.nextInt(3) + "." + random.nextInt(3);
    if (random.nextInt(8) == 0) {
      text = oneOf(NUMBERS) + "." + oneOf(NUMBERS) + "." + oneOf(NUMBERS);
    }
    if (random.nextInt(2) == 0) {
      text += "-" + oneOf(MARKS) + (random.nextInt(3) == 0 ? "." + oneOf(MARKS) : "");
    }
    return text + (random.nextInt(6) == 0 ? "+" + oneOf("b", "00", "a.b", "-") : "");
  }

  private String date() {
    return oneOf("2023", "2024") + "." + oneOf("01", "02", "12") + "." + oneOf("01", "02", "28");
  }

  String operand() {
    if (order != 0 || random.nextInt(3) > 0) {
      return version();
    }
    String first = String.valueOf(random.nextInt(3));
    String second = String.valueOf(random.nextInt(3));
    switch (random.nextInt(5)) {
      case 0:
        return first;
      case 1:
        return first + "." + second;
      case 2:
        return first + "." + oneOf("x", "X", "*");
      case 3:
        return first + "." + oneOf("x", "X", "*") + "." + oneOf("x", "X", "*");
      default:
        return first + "." + second + "." + oneOf("x", "X", "*");
    }
  }

  String sign() {
    return order == 0 ? oneOf(SEMANTIC_SIGNS) : oneOf(SIGNS);
  }

  String blanks(int atLeast) {
    return " ".repeat(atLeast + (random.nextInt(5) == 0 ? 1 + random.nextInt(2) : 0));
  }

  String range() {
    StringBuilder text = new StringBuilder(blanks(0));
    int rows = 1 + random.nextInt(3);
    for (int i = 0; i < rows; i++) {
      text.append(i == 0 ? "" : "||" + blanks(0)).append(row()).append(blanks(0));
    }
    return text.toString();
  }

  private String row() {
    if (random.nextInt(3) == 0) {
      return operand() + blanks(1) + "-" + blanks(1) + operand();
    }
    StringBuilder text = new StringBuilder();
    int terms = 1 + random.nextInt(3);
    for (int i = 0; i < terms; i++) {
      text.append(i == 0 ? "" : blanks(1));
      text.append(random.nextInt(8) == 0 ? oneOf("*", "x", "!") : sign() + operand());
    }
    return text.toString();
  }

  /** A few signs changed, left out, put in, or cut off. */
  String disturbed(String text) {
    StringBuilder changed = new StringBuilder(text);
    int times = random.nextInt(3);
    for (int i = 0; i < times; i++) {
      int place = random.nextInt(changed.length() + 1);
      char noise = NOISE.charAt(random.nextInt(NOISE.length()));
      int kind = random.nextInt(4);
      if (kind == 0 || place == changed.length()) {
        changed.insert(place, noise);
      } else if (kind == 1) {
        changed.deleteCharAt(place);
      } else if (kind == 2) {
        changed.setCharAt(place, noise);
      } else {
        changed.setLength(place);
      }
    }
    return changed.toString();
  }

  String oneOf(String... texts) {
    return texts[random.nextInt(texts.length)];
  }
}
