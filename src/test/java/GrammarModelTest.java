/** Promises 3 and 6 on random texts, most of them with a few wrong signs, against the Grammar. */
public final class GrammarModelTest {
  public static void main(String[] args) {
    for (int order = 0; order <= 2; order++) {
      Texts texts = new Texts(order, 7 + order);
      Grammar grammar = new Grammar(order);
      for (int i = 0; i < 20000; i++) {
        String one = texts.disturbed(texts.version());
        Probe.due("order " + order + ": read " + one, Math.min(0, new Probe(order).read(one)), grammar.ofVersion(one));
        String many = texts.disturbed(texts.range());
        if (many.length() <= 200) {
          Probe.due("order " + order + ": range " + many, Math.min(0, new Probe(order).range(many)), grammar.ofRange(many));
        }
      }
    }
    Probe.end();
  }
}
