/**
 * An object of VersionOrders with texts in place of single signs, and a count of the answers that are
 * not the ones that are due.
 */
final class Probe {
  /** What part() is said to have answered when it threw. */
  static final String THROWS = "throws ArrayIndexOutOfBoundsException";

  private static int wrong = 0;
  private static int asked = 0;
  private static int sentences = 0;
  private static int askedBefore = 0;
  private static String sentence = "";

  final VersionOrders orders;

  Probe(int order) {
    orders = new VersionOrders(order);
  }

  Probe signs(String text) {
    for (int i = 0; i < text.length(); i++) {
      orders.sign(text.charAt(i));
    }
    return this;
  }

  int read(String text) {
    return signs(text).orders.read();
  }

  int range(String text) {
    return signs(text).orders.range();
  }

  /** What print() prints of a set. */
  String printed(int set) {
    int length = orders.print(set);
    if (length < 0) {
      return "none: " + length;
    }
    StringBuilder text = new StringBuilder();
    for (int i = 0; i < length; i++) {
      text.append((char) orders.at(i));
    }
    return text.toString();
  }

  /** A range's set, printed; or the number that says why it can't stand. */
  String shown(String range) {
    int set = range(range);
    return set < 0 ? String.valueOf(set) : printed(set);
  }

  String part(int version, int i) {
    try {
      return String.valueOf(orders.part(version, i));
    } catch (ArrayIndexOutOfBoundsException e) {
      return THROWS;
    }
  }

  /** Which of the versions that were read are in a set, by their numbers. */
  String members(int set, int versions) {
    StringBuilder text = new StringBuilder();
    for (int i = 0; i < versions; i++) {
      if (orders.in(set, i)) {
        text.append(text.length() == 0 ? "" : " ").append(i);
      }
    }
    return text.toString();
  }

  /** The document's words that the answers from here on are due to; the words before must have had some. */
  static void sentence(String words) {
    closeSentence();
    sentences++;
    sentence = words;
    askedBefore = asked;
  }

  private static void closeSentence() {
    if (sentences > 0 && asked == askedBefore) {
      wrong++;
      System.out.println("nothing was asked for: " + sentence);
    }
  }

  static void due(String call, Object got, Object want) {
    asked++;
    if (!want.equals(got)) {
      wrong++;
      System.out.println(call + " answered " + got + ", due is " + want + (sentence.isEmpty() ? "" : "  (" + sentence + ")"));
    }
  }

  static void end() {
    closeSentence();
    String told = sentences == 0 ? "" : sentences + " sentences, ";
    System.out.println(told + asked + " answers, " + wrong + " of them not as due");
    System.exit(wrong == 0 && asked > 0 ? 0 : 1);
  }
}
