import java.util.ArrayList;
import java.util.List;

/** Promises 5 to 12 on random versions and ranges, against the Model. */
public final class SetModelTest {
  private final int order;
  private final Model model;
  private final Texts texts;

  private SetModelTest(int order) {
    this.order = order;
    model = new Model(order);
    texts = new Texts(order, 100 + order);
  }

  public static void main(String[] args) {
    for (int order = 0; order <= 2; order++) {
      SetModelTest test = new SetModelTest(order);
      for (int i = 0; i < 6000; i++) {
        test.compared();
        test.sets();
      }
    }
    Probe.end();
  }

  private void compared() {
    Probe probe = new Probe(order);
    String a = texts.version();
    String b = texts.version();
    probe.read(a);
    probe.read(b);
    Probe.due("compare " + a + ", " + b, probe.orders.compare(0, 1), model.compare(a, b));
  }

  private void sets() {
    StringBuilder firstText = new StringBuilder();
    StringBuilder secondText = new StringBuilder();
    List<Model.Range> first = range(firstText);
    List<Model.Range> second = range(secondText);
    if (firstText.length() > 120 || secondText.length() > 120) {
      return;
    }
    String call = "order " + order + ": " + firstText + " and " + secondText;
    Probe.due(call + ": printed", printed(firstText, secondText, 0), model.printed(first));
    Probe.due(call + ": both, printed", printed(firstText, secondText, 2), model.printed(model.both(first, second)));
    Probe.due(call + ": not, printed", printed(firstText, secondText, 3), model.printed(model.not(first)));
    members(call, firstText, secondText, List.of(first, second, model.both(first, second), model.not(first)));
    readAgain(call, model.printed(first));
  }

  /** Sets 0 and 1 are the two ranges, 2 is both, 3 what the first isn't. */
  private Probe made(CharSequence firstText, CharSequence secondText) {
    Probe probe = new Probe(order);
    probe.range(firstText.toString());
    probe.range(secondText.toString());
    probe.orders.both(0, 1);
    probe.orders.not(0);
    return probe;
  }

  private String printed(CharSequence firstText, CharSequence secondText, int set) {
    return made(firstText, secondText).printed(set);
  }

  private void members(String call, CharSequence firstText, CharSequence secondText, List<List<Model.Range>> sets) {
    Probe probe = made(firstText, secondText);
    List<String> versions = new ArrayList<>();
    for (int i = 0; i < 8; i++) {
      versions.add(texts.version());
      probe.read(versions.get(i));
    }
    for (int set = 0; set < sets.size(); set++) {
      int next = -1;
      for (int i = 0; i < versions.size(); i++) {
        String version = versions.get(i);
        boolean in = model.in(sets.get(set), version);
        Probe.due(call + ": in(" + set + ") " + version, probe.orders.in(set, i), in);
        if (in && model.compare(version, versions.get(0)) > 0 && (next < 0 || model.compare(version, versions.get(next)) < 0)) {
          next = i;
        }
      }
      Probe.due(call + ": next(" + set + ") of " + versions, probe.orders.next(set, 0), next);
      Probe.due(call + ": empty(" + set + ")", probe.orders.empty(set), sets.get(set).isEmpty());
    }
  }

  private void readAgain(String call, String printed) {
    if (printed.length() <= 200) {
      Probe.due(call + ": read again", new Probe(order).shown(printed), printed);
    }
  }

  /** A random range: its text, and what the model makes of it. */
  private List<Model.Range> range(StringBuilder text) {
    List<Model.Range> rows = new ArrayList<>();
    int many = 1 + texts.random.nextInt(4);
    text.append(texts.blanks(0));
    for (int i = 0; i < many; i++) {
      text.append(i == 0 ? "" : texts.blanks(0) + "||" + texts.blanks(0));
      rows.add(row(text));
    }
    text.append(texts.blanks(0));
    return model.joined(rows);
  }

  private Model.Range row(StringBuilder text) {
    if (texts.random.nextInt(4) == 0) {
      String a = texts.operand();
      String b = texts.operand();
      text.append(a).append(texts.blanks(1)).append('-').append(texts.blanks(1)).append(b);
      return model.hyphen(a, b);
    }
    Model.Range row = Model.ALL;
    int many = 1 + texts.random.nextInt(2);
    for (int i = 0; i < many; i++) {
      boolean all = texts.random.nextInt(10) == 0;
      String sign = all ? "" : texts.sign();
      String operand = all ? "" : texts.operand();
      text.append(i == 0 ? "" : texts.blanks(1)).append(all ? "*" : sign + operand);
      row = model.common(row, model.term(sign, operand));
    }
    return row;
  }
}
