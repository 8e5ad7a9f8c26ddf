/** Promise 4: the parts of a version. */
public final class PartTest {
  public static void main(String[] args) {
    parts(0, "1.2.3", "1", "2", "3");
    parts(0, "0.0.0+a.b", "0", "0", "0");
    parts(0, "1.2.3-rc.1+b", "1", "2", "3", "-2", "1");
    parts(0, "1.2.3-a.0.--.0a.10", "1", "2", "3", "-1", "0", "-2", "-2", "10");
    parts(0, "2147483646.2147483647.2147483648", "2147483646", "2147483647", "2147483647");
    parts(0, "1.2.3-2147483646.2147483647.99999999999999999999", "1", "2", "3", "2147483646", "2147483647", "2147483647");
    parts(0, "4294967296.18446744073709551617.9", "2147483647", "2147483647", "9");
    parts(1, "1.0", "0");
    parts(1, "0:1.0", "0");
    parts(1, "7:1.0-3", "7");
    parts(1, "99999999999:1.0", "2147483647");
    parts(2, "2024.02.29", "2024", "2", "29", "0");
    parts(2, "0099.10.08.7", "99", "10", "8", "7");
    parts(2, "2024.02.29.12345678901", "2024", "2", "29", "2147483647");
    noVersion();
    mostMarks();
    Probe.end();
  }

  private static void parts(int order, String text, String... want) {
    Probe probe = new Probe(order);
    probe.read(text);
    for (int i = 0; i < want.length; i++) {
      Probe.due("part " + i + " of " + text, probe.part(0, i), want[i]);
    }
    Probe.due("the part behind the last of " + text, probe.part(0, want.length), Probe.THROWS);
    Probe.due("part -1 of " + text, probe.part(0, -1), Probe.THROWS);
    Probe.due("a part far above of " + text, probe.part(0, Integer.MAX_VALUE), Probe.THROWS);
    Probe.due("a part far below of " + text, probe.part(0, Integer.MIN_VALUE), Probe.THROWS);
  }

  private static void noVersion() {
    Probe probe = new Probe(0);
    probe.read("1.2.3");
    for (int version : new int[] {1, -1, 300, Integer.MAX_VALUE, Integer.MIN_VALUE}) {
      Probe.due("part of version " + version, probe.part(version, 0), "-1000");
      Probe.due("no part of version " + version, probe.part(version, -1), "-1000");
    }
  }

  private static void mostMarks() {
    Probe probe = new Probe(0);
    probe.read("1.2.3-" + "7.".repeat(96) + "8");
    Probe.due("the last of 97 MARKS", probe.part(0, 99), "8");
    Probe.due("behind the last of 97 MARKS", probe.part(0, 100), Probe.THROWS);
  }
}
