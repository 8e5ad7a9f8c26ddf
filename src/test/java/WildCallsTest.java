import java.util.Random;

/**
 * Calls in any order with any arguments, 512 on each object: nothing but part() ever throws, and that
 * only what the document names; the same calls answer the same.
 */
public final class WildCallsTest {
  private static final int CALLS = 512;
  private static final String SIGNS = "0123456789..--++::~~^*xXab|||<>== !";

  public static void main(String[] args) {
    for (int seed = 0; seed < 1500; seed++) {
      long answers = run(seed);
      Probe.due("the same calls again, seed " + seed, run(seed), answers);
    }
    Probe.end();
  }

  private static long run(int seed) {
    Random random = new Random(seed);
    Texts texts = new Texts(seed % 3, seed);
    Probe probe = new Probe(seed % 3);
    long answers = 0;
    for (int calls = 0; calls < CALLS;) {
      String text = random.nextInt(3) > 0 ? "" : random.nextBoolean() ? texts.disturbed(texts.version()) : texts.disturbed(texts.sign() + texts.operand());
      probe.signs(text);
      answers = answers * 31 + call(probe, random);
      calls += text.length() + 1;
    }
    return answers;
  }

  private static long call(Probe probe, Random random) {
    int a = number(random);
    int b = number(random);
    VersionOrders orders = probe.orders;
    try {
      switch (random.nextInt(14)) {
        case 0:
          orders.sign(random.nextInt(20) == 0 ? a : SIGNS.charAt(random.nextInt(SIGNS.length())));
          return 0;
        case 1:
        case 2:
          return orders.read();
        case 3:
          return Long.parseLong(probe.part(a, b).replace(Probe.THROWS, "-5"));
        case 4:
          return orders.compare(a, b);
        case 5:
        case 6:
          return orders.range();
        case 7:
          return orders.in(a, b) ? 1 : 0;
        case 8:
          return orders.both(a, b);
        case 9:
          return orders.not(a);
        case 10:
          return orders.empty(a) ? 1 : 0;
        case 11:
          return orders.next(a, b);
        case 12:
          return orders.print(a);
        default:
          return orders.at(a);
      }
    } catch (RuntimeException e) {
      Probe.due("a call with " + a + " and " + b, e.toString(), "an answer");
      return -7;
    }
  }

  private static int number(Random random) {
    int kind = random.nextInt(12);
    return kind == 0 ? random.nextInt() : kind == 1 ? Integer.MIN_VALUE : kind == 2 ? Integer.MAX_VALUE : kind == 3 ? -1 : random.nextInt(8);
  }
}
