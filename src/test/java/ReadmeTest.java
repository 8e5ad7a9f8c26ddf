import java.io.IOException;
import java.nio.file.Files;
import java.nio.file.Path;
import java.util.ArrayList;
import java.util.List;
import java.util.regex.Matcher;
import java.util.regex.Pattern;

/** What README.md says of the class and of its tests, and its example. */
public final class ReadmeTest {
  private static final Path TESTS = Path.of("src/test/java");
  private static final Pattern LIKE = Pattern.compile("- order ([012]), \\w+: versions like `([^`]+)`, ranges like `([^`]+)`");
  private static final Pattern TEST_NAME = Pattern.compile("`(\\w+Test)`");

  public static void main(String[] args) throws IOException {
    String readme = Files.readString(Path.of("README.md"));
    exampleIsThisOne(readme);
    example();
    texts(readme);
    calls(readme);
    failures();
    testNames(readme);
    promiseTests();
    Probe.end();
  }

  private static void exampleIsThisOne(String readme) throws IOException {
    String source = Files.readString(TESTS.resolve("ReadmeTest.java"));
    List<String> shown = code(between(readme, "```java\n", "```"));
    Probe.due("README's example has lines", shown.size() > 5, true);
    Probe.due("README's example", shown, code(between(source, "// The example\n", "// The example ends")));
  }

  private static String between(String text, String begin, String end) {
    int from = text.indexOf(begin) + begin.length();
    return text.substring(from, text.indexOf(end, from));
  }

  /** The lines of code, without their comments. */
  private static List<String> code(String text) {
    List<String> lines = new ArrayList<>();
    for (String line : text.split("\n")) {
      String code = line.replaceAll("//.*", "").strip();
      if (!code.isEmpty()) {
        lines.add(code);
      }
    }
    return lines;
  }

  private static void example() {
    // The example
    VersionOrders orders = new VersionOrders(0);
    for (char c : "1.2.3-rc.1".toCharArray()) orders.sign(c);
    int version = orders.read();
    for (char c : "^1.2 || 3.x".toCharArray()) orders.sign(c);
    int set = orders.range();
    boolean in = orders.in(set, version);
    int rest = orders.not(set);
    int length = orders.print(rest);
    // The example ends
    Probe.due("the number of the first version", version, 0);
    Probe.due("the number of the first set", set, 0);
    Probe.due("its MARKS are none of the set's", in, false);
    Probe.due("a new set", rest, 1);
    Probe.due("how many signs", length, 39);
    StringBuilder text = new StringBuilder();
    for (int i = 0; i <= 38; i++) {
      text.append((char) orders.at(i));
    }
    Probe.due("the signs", text.toString(), "<1.2.0 || >=2.0.0-0 <3.0.0 || >=4.0.0-0");
    Probe.due("no more of them", orders.at(39), -1);
  }

  private static void texts(String readme) {
    Matcher line = LIKE.matcher(readme);
    int orders = 0;
    while (line.find()) {
      int order = Integer.parseInt(line.group(1));
      Probe.due("the orders in turn", order, orders);
      Probe.due("order " + order + ": read " + line.group(2), new Probe(order).read(line.group(2)), 0);
      Probe.due("order " + order + ": range " + line.group(3), new Probe(order).range(line.group(3)), 0);
      orders++;
    }
    Probe.due("a line for each order", orders, 3);
    Probe.due("an order below 0 is 0", new Probe(-1).read("1.2.3-rc.1+b"), 0);
    Probe.due("one above 2 is 2", new Probe(3).read("2024.02.29.1"), 0);
  }

  private static void calls(String readme) {
    for (String call : new String[] {"sign(c)", "read()", "part(version, i)", "compare(a, b)", "range()", "in(set, version)", "both(a, b)", "not(set)",
      "empty(set)", "next(set, version)", "print(set)", "at(i)"}) {
      Probe.due("README tells of " + call, readme.contains("`" + call + "`"), true);
    }
    Probe probe = new Probe(0);
    probe.read("1.2.3-rc.1");
    probe.read("1.2.3");
    Probe.due("a part that is a number, and a mark that is none", probe.part(0, 4) + " " + probe.part(0, 3), "1 -2");
    Probe.due("compare", probe.orders.compare(0, 1) + " " + probe.orders.compare(1, 1) + " " + probe.orders.compare(1, 0), "-1 0 1");
    probe.range(">=1.2.3");
    Probe.due("next", probe.orders.next(0, 0) + " " + probe.orders.next(0, 1), "1 -1");
    Probe.due("both and not make new sets", probe.orders.not(0) + " " + probe.orders.both(0, 1), "1 2");
    Probe.due("those that they are made of stay", probe.printed(0) + " " + probe.printed(1), ">=1.2.3 <1.2.3");
    Probe.due("range() reads what was printed", probe.range(probe.printed(1)), 3);
    Probe.due("the same set again", probe.printed(3), probe.printed(1));
    Probe.due("empty", probe.orders.empty(2) + " " + probe.orders.empty(0), "true false");
  }

  private static void failures() {
    Probe probe = new Probe(0);
    Probe.due("01.2.3 read as a semantic version", probe.read("01.2.3"), -2);
    Probe.due("1.2 read as a semantic version", probe.read("1.2"), -4);
    Probe.due("no such version", probe.orders.compare(0, 0), -1000);
    Probe.due("no such set", probe.orders.print(0), -1000);
    Probe.due("in() and empty() answer false then", probe.orders.in(0, 0) || probe.orders.empty(0), false);
    probe.read("1.2.3");
    Probe.due("no such part", probe.part(0, 3), Probe.THROWS);
  }

  /** Every test that README names is there, and README names every test but those of the promises. */
  private static void testNames(String readme) throws IOException {
    Matcher name = TEST_NAME.matcher(readme);
    while (name.find()) {
      Probe.due(name.group(1) + " is a test", Files.exists(TESTS.resolve(name.group(1) + ".java")), true);
    }
    List<String> ofPromises = promises();
    for (String test : testFiles()) {
      Probe.due("README names " + test, ofPromises.contains(test) || readme.contains("`" + test + "`"), true);
    }
  }

  private static List<String> testFiles() throws IOException {
    try (var files = Files.list(TESTS)) {
      return files.map(file -> file.getFileName().toString().replace(".java", "")).filter(name -> name.endsWith("Test")).sorted().toList();
    }
  }

  private static void promiseTests() throws IOException {
    List<String> files = testFiles();
    Probe.due("promises", promises().size(), 13);
    for (String test : promises()) {
      Probe.due("a promise's test: " + test, files.contains(test), true);
    }
  }

  /** The names of the promises' tests, from the document's headings: A new object is tested by NewObjectTest. */
  private static List<String> promises() throws IOException {
    List<String> tests = new ArrayList<>();
    for (String line : Files.readAllLines(Path.of("../shared/DOC.md"))) {
      if (line.startsWith("## Promise ")) {
        StringBuilder name = new StringBuilder();
        for (String word : line.replaceAll("## Promise [0-9]+: (A )?", "").split(" ")) {
          name.append(Character.toUpperCase(word.charAt(0))).append(word.substring(1));
        }
        tests.add(name.append("Test").toString());
      }
    }
    return tests;
  }
}
