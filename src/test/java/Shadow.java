import java.math.BigInteger;
import java.util.ArrayList;
import java.util.List;
import java.util.regex.Matcher;
import java.util.regex.Pattern;

/**
 * An object of VersionOrders once more, in the plainest way: texts, and what the Grammar and the Model
 * make of them. It tells what each call is to answer after all the calls before it.
 */
final class Shadow {
  private static final int NONE = -1000;
  private static final Pattern HYPHEN = Pattern.compile("([^ ]+) +- +([^ ]+)");
  private static final Pattern TERM = Pattern.compile("([=<>^~]*)(.*)");
  /** In place of all that isn't 32 .. 126. */
  private static final char STRANGE = 1;

  private final int order;
  private final Grammar grammar;
  private final Model model;
  private final StringBuilder signs = new StringBuilder();
  private String printed = "";
  final List<String> versions = new ArrayList<>();
  final List<List<Model.Range>> sets = new ArrayList<>();

  Shadow(int order) {
    this.order = order;
    grammar = new Grammar(order);
    model = new Model(order);
  }

  void sign(int c) {
    if (signs.length() < 200) {
      signs.append(c >= 32 && c <= 126 ? (char) c : STRANGE);
    }
  }

  private String usedUp() {
    String text = signs.toString();
    signs.setLength(0);
    return text;
  }

  int read() {
    String text = usedUp();
    int wrong = grammar.ofVersion(text);
    if (wrong < 0 || versions.size() == 300) {
      return wrong < 0 ? wrong : NONE;
    }
    versions.add(text);
    return versions.size() - 1;
  }

  String part(int version, int i) {
    if (!isVersion(version)) {
      return String.valueOf(NONE);
    }
    List<String> parts = parts(versions.get(version));
    return i >= 0 && i < parts.size() ? parts.get(i) : Probe.THROWS;
  }

  private List<String> parts(String text) {
    List<String> parts = new ArrayList<>();
    if (order == 1) {
      parts.add(text.contains(":") ? text.replaceAll(":.*", "") : "0");
    } else {
      String[] numbersAndMarks = model.printed(text).split("-", 2);
      parts.addAll(List.of(numbersAndMarks[0].split("\\.")));
      parts.addAll(numbersAndMarks.length == 2 ? List.of(numbersAndMarks[1].split("\\.")) : List.of());
      if (order == 2 && parts.size() == 3) {
        parts.add("0");
      }
    }
    parts.replaceAll(Shadow::told);
    return parts;
  }

  private static String told(String part) {
    boolean number = part.matches("[0-9]+");
    return number ? new BigInteger(part).min(BigInteger.valueOf(2147483647)).toString() : "-" + part.length();
  }

  int compare(int a, int b) {
    return isVersion(a) && isVersion(b) ? model.compare(versions.get(a), versions.get(b)) : NONE;
  }

  int range() {
    String text = usedUp();
    int wrong = grammar.ofRange(text);
    return wrong < 0 ? wrong : kept(spans(text.strip()));
  }

  private List<Model.Range> spans(String text) {
    List<Model.Range> rows = new ArrayList<>();
    if (!text.equals("!")) {
      for (String row : text.split("\\|\\|")) {
        rows.add(row(row.strip()));
      }
    }
    return model.joined(rows);
  }

  private Model.Range row(String text) {
    Matcher hyphen = HYPHEN.matcher(text);
    if (hyphen.matches()) {
      return model.hyphen(hyphen.group(1), hyphen.group(2));
    }
    Model.Range row = Model.ALL;
    for (String one : text.split(" +")) {
      Matcher term = TERM.matcher(one);
      boolean all = !term.matches() || term.group(2).matches("[xX*]");
      row = model.common(row, all ? Model.ALL : model.term(term.group(1), term.group(2)));
    }
    return row;
  }

  private int kept(List<Model.Range> set) {
    if (sets.size() == 200 || set.size() > 40) {
      return NONE;
    }
    sets.add(set);
    return sets.size() - 1;
  }

  boolean in(int set, int version) {
    return isSet(set) && isVersion(version) && model.in(sets.get(set), versions.get(version));
  }

  int both(int a, int b) {
    return isSet(a) && isSet(b) ? kept(model.both(sets.get(a), sets.get(b))) : NONE;
  }

  int not(int set) {
    return isSet(set) ? kept(model.not(sets.get(set))) : NONE;
  }

  boolean empty(int set) {
    return isSet(set) && sets.get(set).isEmpty();
  }

  int next(int set, int version) {
    if (!isSet(set) || !isVersion(version)) {
      return NONE;
    }
    int least = -1;
    for (int i = 0; i < versions.size(); i++) {
      if (in(set, i) && compare(i, version) > 0 && (least < 0 || compare(i, least) < 0)) {
        least = i;
      }
    }
    return least;
  }

  int print(int set) {
    if (!isSet(set)) {
      return NONE;
    }
    printed = model.printed(sets.get(set));
    return printed.length();
  }

  int at(int i) {
    return i >= 0 && i < printed.length() ? printed.charAt(i) : -1;
  }

  private boolean isVersion(int number) {
    return number >= 0 && number < versions.size();
  }

  private boolean isSet(int number) {
    return number >= 0 && number < sets.size();
  }
}
