import java.util.ArrayList;

/**
 * Versions by three orders, and sets of them. What it promises stands in the document DOC.md; how it
 * is used, in README.md.
 */
public final class VersionOrders {
  private static final int NONE = -1000;
  private static final int MOST_SIGNS = 200;
  private static final int MOST_VERSIONS = 300;
  private static final int MOST_SETS = 200;
  private static final int MOST_SPANS = 40;
  private static final int GREATEST_PART = 2147483647;

  private final Signs signs;
  private final Order order;
  private final RangeReader ranges;
  private final Version[] versions;
  private final SpanSet[] sets;
  private final StringBuilder printed;
  private int versionCount;
  private int setCount;

  public VersionOrders(int order) {
    signs = new Signs();
    if (order <= 0) {
      this.order = new Semantic(signs);
    } else if (order == 1) {
      this.order = new Packages(signs);
    } else {
      this.order = new Dates(signs);
    }
    ranges = new RangeReader(signs, this.order);
    versions = new Version[MOST_VERSIONS];
    sets = new SpanSet[MOST_SETS];
    printed = new StringBuilder();
  }

  public void sign(int c) {
    signs.collect(c);
  }

  public int read() {
    Version made = order.version(false);
    boolean stands = made != null && signs.ended();
    int place = signs.place;
    signs.useUp();
    if (!stands) {
      return -1 - place;
    }
    if (versionCount >= versions.length) {
      return NONE;
    }
    versions[versionCount] = made;
    versionCount++;
    return versionCount - 1;
  }

  public int part(int version, int i) throws ArrayIndexOutOfBoundsException {
    Version asked = versionOf(version);
    if (asked == null) {
      return NONE;
    }
    int[] parts = asked.parts;
    if (i < 0 || i >= parts.length) {
      throw new ArrayIndexOutOfBoundsException("no such part");
    }
    return parts[i];
  }

  public int compare(int a, int b) {
    Version first = versionOf(a);
    Version second = versionOf(b);
    if (first == null || second == null) {
      return NONE;
    }
    return first.against(second);
  }

  public int range() {
    SpanSet made = ranges.rows();
    int place = signs.place;
    signs.useUp();
    if (made == null) {
      return -1 - place;
    }
    return keep(made);
  }

  public boolean in(int set, int version) {
    SpanSet where = setOf(set);
    Version what = versionOf(version);
    return where != null && what != null && where.has(what);
  }

  public int both(int a, int b) {
    SpanSet first = setOf(a);
    SpanSet second = setOf(b);
    if (first == null || second == null || setCount >= sets.length) {
      return NONE;
    }
    return keep(first.common(second));
  }

  public int not(int set) {
    SpanSet turned = setOf(set);
    if (turned == null || setCount >= sets.length) {
      return NONE;
    }
    return keep(turned.rest());
  }

  public boolean empty(int set) {
    SpanSet asked = setOf(set);
    return asked != null && asked.size() == 0;
  }

  public int next(int set, int version) {
    SpanSet where = setOf(set);
    Version behind = versionOf(version);
    if (where == null || behind == null) {
      return NONE;
    }
    int found = -1;
    Version least = null;
    for (int i = 0; i < versionCount; i++) {
      Version candidate = versionOf(i);
      if (candidate == null || candidate.against(behind) <= 0) {
        continue;
      }
      if ((least == null || candidate.against(least) < 0) && where.has(candidate)) {
        least = candidate;
        found = i;
      }
    }
    return found;
  }

  public int print(int set) {
    SpanSet shown = setOf(set);
    if (shown == null) {
      return NONE;
    }
    printed.setLength(0);
    shown.write(printed);
    return printed.length();
  }

  public int at(int i) {
    return i >= 0 && i < printed.length() ? printed.charAt(i) : -1;
  }

  private Version versionOf(int number) {
    return number >= 0 && number < versionCount && number < versions.length ? versions[number] : null;
  }

  private SpanSet setOf(int number) {
    return number >= 0 && number < setCount && number < sets.length ? sets[number] : null;
  }

  private int keep(SpanSet made) {
    if (setCount >= sets.length || made.size() > MOST_SPANS) {
      return NONE;
    }
    sets[setCount] = made;
    setCount++;
    return setCount - 1;
  }

  private static boolean isDigit(int c) {
    return c >= '0' && c <= '9';
  }

  private static boolean isLetter(int c) {
    return c >= 'a' && c <= 'z' || c >= 'A' && c <= 'Z';
  }

  /** The collected signs, and the place that is being read: where reading fails, it stays there. */
  private static final class Signs {
    private final int[] row = new int[MOST_SIGNS];
    private final StringBuilder cut = new StringBuilder();
    private int count;
    private int place;

    void collect(int c) {
      if (count < row.length) {
        row[count] = c;
        count++;
      }
    }

    void useUp() {
      count = 0;
      place = 0;
    }

    boolean ended() {
      return place >= count;
    }

    /** A collected -1 looks like the end here, so only ended() tells the end. */
    int here() {
      return place >= 0 && place < count && place < row.length ? row[place] : -1;
    }

    boolean skip(int c) {
      boolean stands = here() == c;
      if (stands) {
        place++;
      }
      return stands;
    }

    /** What may stand in place of a NUMBER. */
    boolean skipWild() {
      int c = here();
      boolean stands = c == 'x' || c == 'X' || c == '*';
      if (stands) {
        place++;
      }
      return stands;
    }

    boolean skipBlanks() {
      int from = place;
      while (place < count && here() == ' ') {
        place++;
      }
      return place > from;
    }

    void skipDigits() {
      while (place < count && isDigit(here())) {
        place++;
      }
    }

    /** A NUMBER; null if there is none here. A 0 is one by itself, whatever stands behind it. */
    String number() {
      cut.setLength(0);
      boolean zero = here() == '0';
      while (place < count && isDigit(here()) && !(zero && cut.length() == 1)) {
        cut.append((char) here());
        place++;
      }
      return cut.length() == 0 ? null : cut.toString();
    }

    /** What just so many digits (four at most) say; -1 if there are fewer, the place being behind them. */
    int digits(int many) {
      int from = place;
      int value = 0;
      while (place < count && place - from < many && isDigit(here())) {
        value = value * 10 + (here() - '0');
        place++;
      }
      return place - from == many ? value : -1;
    }

    String text(int from, int to) {
      cut.setLength(0);
      for (int i = from; i < to; i++) {
        if (i >= 0 && i < row.length) {
          cut.append((char) row[i]);
        }
      }
      return cut.toString();
    }
  }

  /**
   * A version. Its key is a text that is made so that versions compare like their keys do, sign by
   * sign: so no comparison needs to know the order.
   */
  private static final class Version {
    private final String text;
    private final String key;
    private final int[] parts;
    /** Only semantic versions have them: else null. */
    private final Numbers numbers;
    private final boolean marked;

    Version(String text, String key, int[] parts, Numbers numbers, boolean marked) {
      this.text = text;
      this.key = key;
      this.parts = parts;
      this.numbers = numbers;
      this.marked = marked;
    }

    int against(Version other) {
      int shorter = Math.min(key.length(), other.key.length());
      for (int i = 0; i < shorter; i++) {
        int difference = key.charAt(i) - other.key.charAt(i);
        if (difference != 0) {
          return difference < 0 ? -1 : 1;
        }
      }
      return Integer.compare(key.length(), other.key.length());
    }

    boolean isPartial() {
      return numbers != null && numbers.given < Numbers.ALL;
    }

    /** Whether this end of a span lets in a version with MARKS. */
    boolean admits(Version other) {
      return marked && numbers != null && other.numbers != null && numbers.same(other.numbers);
    }
  }

  /** The three NUMBERS of a semantic version; of a PARTIAL one fewer are given, the others are 0. */
  private static final class Numbers {
    private static final int ALL = 3;
    private final String first;
    private final String second;
    private final String third;
    private final int given;

    Numbers(String first, String second, String third, int given) {
      this.first = first;
      this.second = second;
      this.third = third;
      this.given = given;
    }

    boolean same(Numbers other) {
      return first.equals(other.first) && second.equals(other.second) && third.equals(other.third);
    }

    /** The NUMBER at a place greater by one, those behind it 0. */
    Numbers raised(int place) {
      if (place <= 0) {
        return new Numbers(plusOne(first), "0", "0", ALL);
      }
      if (place == 1) {
        return new Numbers(first, plusOne(second), "0", ALL);
      }
      return new Numbers(first, second, plusOne(third), ALL);
    }

    /** The place of the first NUMBER that isn't 0, or of the last one that is given. */
    int leading() {
      if (given <= 1 || !first.equals("0")) {
        return 0;
      }
      return given == 2 || !second.equals("0") ? 1 : 2;
    }

    private static String plusOne(String digits) {
      char[] row = digits.toCharArray();
      int i = row.length - 1;
      while (i >= 0 && row[i] == '9') {
        row[i] = '0';
        i--;
      }
      if (i >= 0) {
        row[i] = (char) (row[i] + 1);
        return new String(row);
      }
      StringBuilder longer = new StringBuilder();
      longer.append('1');
      longer.append(new String(row));
      return longer.toString();
    }
  }

  /** One of the three orders: how its versions are read, and what their keys are. */
  private abstract static class Order {
    final Signs signs;
    final StringBuilder key = new StringBuilder();

    Order(Signs signs) {
      this.signs = signs;
    }

    /**
     * The VERSION that begins at the place, or a PARTIAL one if that may be; null if it can't stand,
     * the place being where.
     */
    abstract Version version(boolean orPartial);

    /** Whether there are PARTIAL versions, and with them ^, ~ and x alone. */
    boolean hasPartials() {
      return false;
    }

    /** The version whose NUMBER at a place is greater by one, with these MARKS. */
    Version raised(Version version, int place, String marks) {
      return version;
    }

    /** The version with the NUMBERS of this one and these MARKS. */
    Version marked(Version version, String marks) {
      return version;
    }

    /** How long it is, then its digits: so a longer NUMBER is greater, and 0 in front doesn't count. */
    final void keyNumber(String digits) {
      int from = 0;
      while (from < digits.length() && digits.charAt(from) == '0') {
        from++;
      }
      key.append((char) (digits.length() - from));
      for (int i = from; i < digits.length(); i++) {
        key.append(digits.charAt(i));
      }
    }

    static int value(String digits) {
      long value = 0;
      for (int i = 0; i < digits.length(); i++) {
        value = value * 10 + (digits.charAt(i) - '0');
        if (value >= GREATEST_PART) {
          return GREATEST_PART;
        }
      }
      return (int) value;
    }
  }

  private static final class Semantic extends Order {
    private static final char MARKS_FOLLOW = 0;
    private static final char NO_MARKS = 1;
    private static final char MARKS_END = 0;
    private static final char NUMBER_FOLLOWS = 1;
    private static final char NAME_FOLLOWS = 2;
    private static final char NAME_ENDS = 0;
    private final StringBuilder text = new StringBuilder();

    Semantic(Signs signs) {
      super(signs);
    }

    @Override
    boolean hasPartials() {
      return true;
    }

    @Override
    Version raised(Version version, int place, String marks) {
      return version.numbers == null ? version : made(version.numbers.raised(place), marks);
    }

    @Override
    Version marked(Version version, String marks) {
      return version.numbers == null ? version : made(version.numbers, marks);
    }

    @Override
    Version version(boolean orPartial) {
      Numbers numbers = numbers(orPartial);
      if (numbers == null) {
        return null;
      }
      if (numbers.given < Numbers.ALL) {
        return made(numbers, "");
      }
      String marks = "";
      if (signs.skip('-')) {
        int from = signs.place;
        if (!skipNames(true)) {
          return null;
        }
        marks = signs.text(from, signs.place);
      }
      if (signs.skip('+') && !skipNames(false)) {
        return null;
      }
      return made(numbers, marks);
    }

    private Numbers numbers(boolean orPartial) {
      String first = signs.number();
      if (first == null) {
        return null;
      }
      if (!signs.skip('.')) {
        return orPartial ? new Numbers(first, "0", "0", 1) : null;
      }
      if (orPartial && signs.skipWild()) {
        boolean wrong = signs.skip('.') && !signs.skipWild();
        return wrong ? null : new Numbers(first, "0", "0", 1);
      }
      String second = signs.number();
      if (second == null) {
        return null;
      }
      if (!signs.skip('.')) {
        return orPartial ? new Numbers(first, second, "0", 2) : null;
      }
      if (orPartial && signs.skipWild()) {
        return new Numbers(first, second, "0", 2);
      }
      String third = signs.number();
      return third == null ? null : new Numbers(first, second, third, Numbers.ALL);
    }

    /** NAMES with . between; as MARKS, one of digits alone fails where it begins with a 0. */
    private boolean skipNames(boolean asMarks) {
      for (int names = 0; names < MOST_SIGNS; names++) {
        int from = signs.place;
        boolean zeroInFront = signs.here() == '0';
        signs.skipDigits();
        int digitsEnd = signs.place;
        while (signs.place < signs.count && isNameSign(signs.here())) {
          signs.place++;
        }
        if (signs.place == from) {
          return false;
        }
        if (asMarks && zeroInFront && signs.place == digitsEnd && digitsEnd - from > 1) {
          signs.place = from;
          return false;
        }
        if (!signs.skip('.')) {
          return true;
        }
      }
      return false;
    }

    private static boolean isNameSign(int c) {
      return isDigit(c) || isLetter(c) || c == '-';
    }

    private Version made(Numbers numbers, String marks) {
      key.setLength(0);
      keyNumber(numbers.first);
      keyNumber(numbers.second);
      keyNumber(numbers.third);
      key.append(marks.isEmpty() ? NO_MARKS : MARKS_FOLLOW);
      int[] parts = new int[Numbers.ALL + markCount(marks)];
      parts[0] = value(numbers.first);
      parts[1] = value(numbers.second);
      parts[2] = value(numbers.third);
      int from = 0;
      for (int i = Numbers.ALL; i < parts.length; i++) {
        String mark = markAt(marks, from);
        if (isNumber(mark)) {
          key.append(NUMBER_FOLLOWS);
          keyNumber(mark);
          parts[i] = value(mark);
        } else {
          key.append(NAME_FOLLOWS).append(mark).append(NAME_ENDS);
          parts[i] = -mark.length();
        }
        from += mark.length() + 1;
      }
      key.append(MARKS_END);
      return new Version(written(numbers, marks), key.toString(), parts, numbers, !marks.isEmpty());
    }

    private String written(Numbers numbers, String marks) {
      text.setLength(0);
      text.append(numbers.first).append('.').append(numbers.second).append('.').append(numbers.third);
      if (!marks.isEmpty()) {
        text.append('-').append(marks);
      }
      return text.toString();
    }

    private static int markCount(String marks) {
      int count = marks.isEmpty() ? 0 : 1;
      for (int i = 0; i < marks.length(); i++) {
        if (marks.charAt(i) == '.') {
          count++;
        }
      }
      return count;
    }

    private static String markAt(String marks, int from) {
      int to = from;
      while (to < marks.length() && marks.charAt(to) != '.') {
        to++;
      }
      return from < to ? marks.substring(from, to) : "";
    }

    private static boolean isNumber(String mark) {
      boolean digits = true;
      for (int i = 0; i < mark.length(); i++) {
        digits = digits && isDigit(mark.charAt(i));
      }
      return digits;
    }
  }

  private static final class Packages extends Order {
    private static final char TILDE = 1;
    private static final char END = 2;
    private static final int BEHIND_LETTERS = 128;

    Packages(Signs signs) {
      super(signs);
    }

    @Override
    Version version(boolean orPartial) {
      int from = signs.place;
      String epoch = signs.number();
      if (epoch == null || !signs.skip(':')) {
        epoch = "0";
        signs.place = from;
      }
      if (!isDigit(signs.here())) {
        return null;
      }
      int begin = signs.place;
      int dash = -1;
      while (signs.place < signs.count && isTextSign(signs.here())) {
        dash = signs.here() == '-' ? signs.place : dash;
        signs.place++;
      }
      int end = signs.place;
      if (dash == end - 1) {
        return null;
      }
      key.setLength(0);
      keyNumber(epoch);
      keyText(signs.text(begin, dash < 0 ? end : dash));
      keyText(dash < 0 ? "" : signs.text(dash + 1, end));
      int[] parts = {value(epoch)};
      return new Version(signs.text(from, end), key.toString(), parts, null, false);
    }

    private static boolean isTextSign(int c) {
      return isDigit(c) || isLetter(c) || c == '.' || c == '+' || c == '~' || c == '-';
    }

    /**
     * No digits and digits in turn, the first turn even if it is empty, and an end. Only the first
     * turn's no digits may be empty, so the end meets either an end or the first sign of no digits.
     */
    private void keyText(String text) {
      int i = 0;
      for (int turn = 0; turn <= text.length() && (turn == 0 || i < text.length()); turn++) {
        while (i < text.length() && !isDigit(text.charAt(i))) {
          key.append(weight(text.charAt(i)));
          i++;
        }
        key.append(END);
        int from = i;
        while (i < text.length() && isDigit(text.charAt(i))) {
          i++;
        }
        keyNumber(text.substring(from, i));
      }
      key.append(END);
    }

    private static char weight(char c) {
      if (c == '~') {
        return TILDE;
      }
      return isLetter(c) ? c : (char) (c + BEHIND_LETTERS);
    }
  }

  private static final class Dates extends Order {
    private static final int[] DAYS = {31, 28, 31, 30, 31, 30, 31, 31, 30, 31, 30, 31};
    private static final int FEBRUARY = 2;

    Dates(Signs signs) {
      super(signs);
    }

    @Override
    Version version(boolean orPartial) {
      int from = signs.place;
      int year = signs.digits(4);
      if (year < 0 || !signs.skip('.')) {
        return null;
      }
      int month = twoDigits(DAYS.length);
      if (month < 0 || !signs.skip('.')) {
        return null;
      }
      int day = twoDigits(daysOf(year, month));
      if (day < 0) {
        return null;
      }
      String number = signs.skip('.') ? signs.number() : "0";
      if (number == null) {
        return null;
      }
      key.setLength(0);
      // Of a key's signs none may be above 255, so the year takes two.
      key.append((char) (year / 100)).append((char) (year % 100));
      key.append((char) month).append((char) day);
      keyNumber(number);
      int[] parts = {year, month, day, value(number)};
      return new Version(signs.text(from, signs.place), key.toString(), parts, null, false);
    }

    /** 01 up to the most; -1 if it is something else: then its beginning can't stand. */
    private int twoDigits(int most) {
      int from = signs.place;
      int value = signs.digits(2);
      if (value >= 0 && (value < 1 || value > most)) {
        signs.place = from;
        return -1;
      }
      return value;
    }

    private static int daysOf(int year, int month) {
      if (month < 1 || month > DAYS.length) {
        return 0;
      }
      boolean leap = year % 4 == 0 && year % 100 != 0 || year % 400 == 0;
      return month == FEBRUARY && leap ? 29 : DAYS[month - 1];
    }
  }

  /** Reads a RANGE: what fails answers null, the place of the signs being where. */
  private static final class RangeReader {
    private static final int LIKE = 0;
    private static final int LESS = 1;
    private static final int UP_TO = 2;
    private static final int GREATER = 3;
    private static final int FROM = 4;
    private static final int TILDE = 5;
    private static final int CARET = 6;
    private static final String LEAST_MARK = "0";

    private final Signs signs;
    private final Order order;
    /** The newest TERM: what it asks for and of which version; null if it is all. */
    private int relation;
    private Version operand;
    /** Whether that is a VERSION with no sign in front: a - may stand behind it. */
    private boolean plain;

    RangeReader(Signs signs, Order order) {
      this.signs = signs;
      this.order = order;
    }

    SpanSet rows() {
      SpanSet all = new SpanSet();
      signs.skipBlanks();
      if (signs.skip('!')) {
        signs.skipBlanks();
        return signs.ended() ? all : null;
      }
      for (int rows = 0; rows < MOST_SIGNS; rows++) {
        Span row = row();
        if (row == null) {
          return null;
        }
        all.join(row);
        if (signs.ended()) {
          return all;
        }
        if (!signs.skip('|') || !signs.skip('|')) {
          return null;
        }
        signs.skipBlanks();
      }
      return null;
    }

    private Span row() {
      if (!term()) {
        return null;
      }
      Span row = meaning();
      boolean blank = signs.skipBlanks();
      if (blank && plain && signs.skip('-')) {
        return upTo(operand);
      }
      for (int terms = 0; terms < MOST_SIGNS; terms++) {
        if (atRowEnd()) {
          return row;
        }
        if (!blank || !term()) {
          return null;
        }
        row = row.common(meaning());
        blank = signs.skipBlanks();
      }
      return null;
    }

    private boolean atRowEnd() {
      return signs.ended() || signs.here() == '|';
    }

    /** The span of A - B, the - being read: nothing else may come in its ROW. */
    private Span upTo(Version begin) {
      if (!signs.skipBlanks() || !isDigit(signs.here())) {
        return null;
      }
      Version end = order.version(true);
      if (end == null) {
        return null;
      }
      signs.skipBlanks();
      if (!atRowEnd()) {
        return null;
      }
      boolean whole = !end.isPartial();
      return new Span(begin, true, whole ? end : order.raised(end, last(end), LEAST_MARK), whole);
    }

    private boolean term() {
      relation = LIKE;
      operand = null;
      plain = false;
      if (signs.skip('*') || order.hasPartials() && (signs.skip('x') || signs.skip('X'))) {
        return true;
      }
      int from = signs.place;
      relation = signInFront();
      plain = signs.place == from;
      operand = order.version(true);
      return operand != null;
    }

    private int signInFront() {
      if (signs.skip('<')) {
        return signs.skip('=') ? UP_TO : LESS;
      }
      if (signs.skip('>')) {
        return signs.skip('=') ? FROM : GREATER;
      }
      if (order.hasPartials() && signs.skip('~')) {
        return TILDE;
      }
      if (order.hasPartials() && signs.skip('^')) {
        return CARET;
      }
      signs.skip('=');
      return LIKE;
    }

    private Span meaning() {
      Version version = operand;
      if (version == null) {
        return new Span(null, false, null, false);
      }
      boolean whole = !version.isPartial();
      int last = last(version);
      switch (relation) {
        case LESS:
          return new Span(null, false, whole ? version : order.marked(version, LEAST_MARK), false);
        case UP_TO:
          return new Span(null, false, whole ? version : order.raised(version, last, LEAST_MARK), whole);
        case GREATER:
          return new Span(whole ? version : order.raised(version, last, ""), !whole, null, false);
        case FROM:
          return new Span(version, true, null, false);
        case TILDE:
          return new Span(version, true, order.raised(version, Math.min(last, 1), LEAST_MARK), false);
        case CARET:
          return new Span(version, true, order.raised(version, leading(version), LEAST_MARK), false);
        default:
          return new Span(version, true, whole ? version : order.raised(version, last, LEAST_MARK), whole);
      }
    }

    private static int last(Version version) {
      return version.numbers == null ? 0 : version.numbers.given - 1;
    }

    private static int leading(Version version) {
      return version.numbers == null ? 0 : version.numbers.leading();
    }
  }

  /** From a version (null: from all below), with it or not, to a version (null: all above). */
  private static final class Span {
    private final Version low;
    private final boolean withLow;
    private final Version high;
    private final boolean withHigh;

    Span(Version low, boolean withLow, Version high, boolean withHigh) {
      this.low = low;
      this.withLow = withLow;
      this.high = high;
      this.withHigh = withHigh;
    }

    boolean isVoid() {
      if (low == null || high == null) {
        return false;
      }
      int order = low.against(high);
      return order > 0 || order == 0 && !(withLow && withHigh);
    }

    boolean isSingle() {
      return low != null && high != null && low.against(high) == 0;
    }

    boolean has(Version version) {
      if (low != null) {
        int order = version.against(low);
        if (order < 0 || order == 0 && !withLow) {
          return false;
        }
      }
      if (high != null) {
        int order = version.against(high);
        if (order > 0 || order == 0 && !withHigh) {
          return false;
        }
      }
      return !version.marked || low != null && low.admits(version) || high != null && high.admits(version);
    }

    /** Whether this one ends below the other one, with something between them. */
    boolean endsBefore(Span other) {
      if (high == null || other.low == null) {
        return false;
      }
      int order = high.against(other.low);
      return order < 0 || order == 0 && !withHigh && !other.withLow;
    }

    /** What is in both; of like beginnings and ends, this one's stay. */
    Span common(Span other) {
      Span begin = beginAgainst(other) >= 0 ? this : other;
      Span end = endAgainst(other) <= 0 ? this : other;
      return new Span(begin.low, begin.withLow, end.high, end.withHigh);
    }

    /** From the lower beginning to the higher end; of like ones, this one's stay. */
    Span joined(Span other) {
      Span begin = beginAgainst(other) <= 0 ? this : other;
      Span end = endAgainst(other) >= 0 ? this : other;
      return new Span(begin.low, begin.withLow, end.high, end.withHigh);
    }

    private int beginAgainst(Span other) {
      if (low == null || other.low == null) {
        return low == other.low ? 0 : low == null ? -1 : 1;
      }
      int order = low.against(other.low);
      if (order != 0 || withLow == other.withLow) {
        return order;
      }
      return withLow ? -1 : 1;
    }

    private int endAgainst(Span other) {
      if (high == null || other.high == null) {
        return high == other.high ? 0 : high == null ? 1 : -1;
      }
      int order = high.against(other.high);
      if (order != 0 || withHigh == other.withHigh) {
        return order;
      }
      return withHigh ? 1 : -1;
    }

    void write(StringBuilder to) {
      if (low == null && high == null) {
        to.append('*');
        return;
      }
      if (low != null && isSingle()) {
        to.append('=').append(low.text);
        return;
      }
      if (low != null) {
        to.append(withLow ? ">=" : ">").append(low.text);
      }
      if (high != null) {
        to.append(low == null ? "" : " ").append(withHigh ? "<=" : "<").append(high.text);
      }
    }
  }

  /** Spans in order, none void, none that touch. */
  private static final class SpanSet {
    private final ArrayList<Span> spans = new ArrayList<>();

    int size() {
      return spans.size();
    }

    /** Joins one more span; of like beginnings and ends, those that are here already stay. */
    void join(Span more) {
      if (more.isVoid()) {
        return;
      }
      int place = 0;
      while (place < spans.size() && spans.get(place).endsBefore(more)) {
        place++;
      }
      Span grown = more;
      for (int left = spans.size(); left > 0 && place < spans.size(); left--) {
        Span met = spans.get(place);
        if (grown.endsBefore(met)) {
          break;
        }
        grown = met.joined(grown);
        spans.remove(place);
      }
      spans.add(place, grown);
    }

    boolean has(Version version) {
      for (int i = 0; i < spans.size(); i++) {
        if (spans.get(i).has(version)) {
          return true;
        }
      }
      return false;
    }

    /** What is in both, but no more spans than show that there are too many. */
    SpanSet common(SpanSet other) {
      SpanSet made = new SpanSet();
      for (int i = 0; i < spans.size(); i++) {
        Span mine = spans.get(i);
        for (int k = 0; k < other.spans.size() && made.size() <= MOST_SPANS; k++) {
          Span theirs = other.spans.get(k);
          if (mine.endsBefore(theirs) || theirs.endsBefore(mine)) {
            continue;
          }
          Span shared = mine.common(theirs);
          if (!shared.isVoid()) {
            made.spans.add(shared);
          }
        }
      }
      return made;
    }

    /** The gaps before, between and behind the spans. */
    SpanSet rest() {
      SpanSet made = new SpanSet();
      Version low = null;
      boolean withLow = false;
      for (int i = 0; i < spans.size(); i++) {
        Span span = spans.get(i);
        if (span.low != null) {
          made.spans.add(new Span(low, withLow, span.low, !span.withLow));
        }
        if (span.high == null) {
          return made;
        }
        low = span.high;
        withLow = !span.withHigh;
      }
      made.spans.add(new Span(low, withLow, null, false));
      return made;
    }

    void write(StringBuilder to) {
      if (spans.isEmpty()) {
        to.append('!');
      }
      for (int i = 0; i < spans.size(); i++) {
        to.append(i == 0 ? "" : " || ");
        spans.get(i).write(to);
      }
    }
  }
}
