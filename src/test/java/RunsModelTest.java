import java.util.Random;

/**
 * Runs of 512 calls, each call's answer against the Shadow's: what a call leaves behind (versions, sets,
 * signs, what was printed) is shown by the calls behind it.
 */
public final class RunsModelTest {
  private static final int CALLS = 512;
  private static final int[] STRANGE = {-1, 0, 9, 31, 127, 128, 255, '1' + 256, ' ' + 65536, Integer.MIN_VALUE, Integer.MAX_VALUE};
  private static final String[] SHORT = {"0", "1", "2", "1a", "1~", "1-0", "0:1", "10"};

  private final String name;
  private final int order;
  private final Random random;
  private final Texts texts;
  private final Probe probe;
  private final Shadow shadow;
  /** How many of twelve turns are questions: they take one call, a text takes many. */
  private final int questions;
  /** Whether most questions make a set: only so a run comes to 200 of them. */
  private final boolean greedy;
  private int calls;

  private RunsModelTest(int seed) {
    order = seed % 3;
    random = new Random(seed);
    texts = new Texts(order, seed);
    probe = new Probe(order);
    shadow = new Shadow(order);
    greedy = seed % 10 == 9;
    questions = greedy ? 11 : 6 + seed / 3 % 6;
    name = "run " + seed + ", order " + order + ", call ";
  }

  public static void main(String[] args) {
    for (int seed = 0; seed < 900; seed++) {
      new RunsModelTest(seed).run();
    }
    Probe.end();
  }

  private void run() {
    while (calls < CALLS) {
      if (random.nextInt(12) < questions && calls > 40) {
        question();
      } else {
        text();
      }
    }
  }

  private void due(String call, Object got, Object want) {
    calls++;
    Probe.due(name + calls + ": " + call, got, want);
  }

  /** A text, now and then in two halves with a question between, or one that nothing reads for a while. */
  private void text() {
    boolean asVersion = random.nextInt(5) > 1;
    String text = random.nextInt(4) == 0 ? texts.disturbed(plain(asVersion)) : plain(asVersion);
    int half = random.nextInt(4) == 0 ? random.nextInt(text.length() + 1) : text.length();
    signs(text.substring(0, half));
    if (half < text.length() && calls < CALLS) {
      question();
    }
    signs(text.substring(half));
    if (random.nextInt(12) > 0 && calls < CALLS) {
      used(asVersion == random.nextInt(20) > 0);
    }
  }

  private String plain(boolean asVersion) {
    if (order == 1 && random.nextInt(2) == 0) {
      return texts.oneOf(SHORT);
    }
    if (order == 1 && random.nextInt(12) == 0) {
      int from = random.nextInt(3);
      return Ask.points(from, from + 36 + random.nextInt(6)) + texts.oneOf("", "||<0", "||>9:0", "||1~", "||$", "  ");
    }
    return asVersion ? texts.version() : random.nextInt(3) == 0 ? texts.range() : texts.sign() + texts.operand();
  }

  private void signs(String text) {
    for (int i = 0; i < text.length() && calls < CALLS; i++) {
      sign(text.charAt(i));
    }
    if (random.nextInt(60) == 0 && calls < CALLS) {
      sign(STRANGE[random.nextInt(STRANGE.length)]);
    }
  }

  private void sign(int c) {
    probe.orders.sign(c);
    shadow.sign(c);
    calls++;
  }

  private void used(boolean asVersion) {
    if (asVersion) {
      due("read()", probe.orders.read(), shadow.read());
    } else {
      due("range()", probe.orders.range(), shadow.range());
    }
  }

  private void question() {
    int version = number(shadow.versions.size());
    int other = number(shadow.versions.size());
    int set = number(shadow.sets.size());
    int with = number(shadow.sets.size());
    int place = number(random.nextInt(3) == 0 ? 300 : 12);
    switch (greedy && random.nextInt(8) > 0 ? 3 + random.nextInt(2) : random.nextInt(11)) {
      case 0:
        due("part(" + version + ", " + place + ")", probe.part(version, place), shadow.part(version, place));
        break;
      case 1:
        due("compare(" + version + ", " + other + ")", probe.orders.compare(version, other), shadow.compare(version, other));
        break;
      case 2:
        due("in(" + set + ", " + version + ")", probe.orders.in(set, version), shadow.in(set, version));
        break;
      case 3:
        due("both(" + set + ", " + with + ")", probe.orders.both(set, with), shadow.both(set, with));
        break;
      case 4:
        due("not(" + set + ")", probe.orders.not(set), shadow.not(set));
        break;
      case 5:
        due("empty(" + set + ")", probe.orders.empty(set), shadow.empty(set));
        break;
      case 6:
        due("next(" + set + ", " + version + ")", probe.orders.next(set, version), shadow.next(set, version));
        break;
      case 7:
      case 8:
        due("print(" + set + ")", probe.orders.print(set), shadow.print(set));
        break;
      default:
        due("at(" + place + ")", probe.orders.at(place), shadow.at(place));
        break;
    }
  }

  /** Most often one of those that there are. */
  private int number(int count) {
    int kind = random.nextInt(30);
    if (kind == 0) {
      return STRANGE[random.nextInt(STRANGE.length)];
    }
    return kind == 1 ? count : kind == 2 ? -1 : random.nextInt(Math.max(count, 1));
  }
}
