/** ORDER 1, sentence by sentence. */
public final class PackagesEdgeTest {
  private static final String TEXT = "abcdefghijklmnopqrstuvwxyzABCDEFGHIJKLMNOPQRSTUVWXYZ0123456789.+~-";

  public static void main(String[] args) {
    epoch();
    noEpoch();
    beginsWithDigit();
    mainSigns();
    lastDash();
    revision();
    noRevision();
    comparedInTurn();
    tilde();
    lettersAndOthers();
    digits();
    turnsMayBeEmpty();
    Probe.end();
  }

  private static void epoch() {
    Probe.sentence("perhaps a NUMBER and :");
    Ask.stands(1, "0:1", "1:1", "10:1", "9".repeat(190) + ":1");
    Ask.fails(1, ":1", 0);
    Ask.fails(1, "a:1", 0);
    Ask.fails(1, "1:", 2);
    Ask.fails(1, "1:2:3", 3);
    Ask.fails(1, "1::2", 2);
    Ask.fails(1, "1.0:1", 3);
    Ask.fails(1, "1a:1", 2);
    Ask.fails(1, "1-1:1", 3);
    Ask.fails(1, "1 :1", 1);
    Ask.fails(1, "01:1", 2);
  }

  private static void noEpoch() {
    Probe.sentence("(the EPOCH, 0 without)");
    Ask.like(1, "1.0", "0:1.0");
    Ask.rising(1, "1.0", "999999", "1:0", "1:1", "2:0", "10:0");
    parts("7", "0");
    parts("0:7", "0");
    parts("1:7", "1");
    parts("12:7-3", "12");
  }

  private static void parts(String text, String epoch) {
    Probe probe = new Probe(1);
    probe.read(text);
    Probe.due("the EPOCH of " + text, probe.part(0, 0), epoch);
    Probe.due("no other part of " + text, probe.part(0, 1), Probe.THROWS);
  }

  private static void beginsWithDigit() {
    Probe.sentence("the MAIN text: it begins with a digit");
    for (char c = 32; c <= 126; c++) {
      boolean digit = c >= '0' && c <= '9';
      Probe.due("read " + c + "1", new Probe(1).read(c + "1"), digit ? 0 : -1);
      Probe.due("read 1:" + c + "1", new Probe(1).read("1:" + c + "1"), digit ? 0 : -3);
      Probe.due("range >" + c + "1", Math.min(0, new Probe(1).range(">" + c + "1")), digit || c == '=' ? 0 : -2);
    }
  }

  private static void mainSigns() {
    Probe.sentence("letters, digits, . + ~ -");
    for (char c = 32; c <= 126; c++) {
      boolean stands = TEXT.indexOf(c) >= 0;
      Probe.due("read 1.0" + c + "1", new Probe(1).read("1.0" + c + "1"), stands ? 0 : -4);
      Probe.due("read 1:1" + c + "1", new Probe(1).read("1:1" + c + "1"), stands ? 0 : -4);
      Probe.due("read 1-a" + c + "1", new Probe(1).read("1-a" + c + "1"), stands ? 0 : -4);
      Probe.due("read 1-" + c, new Probe(1).read("1-" + c), stands && c != '-' ? 0 : c == '-' ? -4 : -3);
    }
  }

  private static void lastDash() {
    Probe.sentence("if there is - , what is behind the last one is the REVISION");
    Ask.rising(1, "1-9", "1-2-3", "1-2-10", "1-9-1");
    Ask.like(1, "1-2-0", "1-2-00", "1-02-0");
    Ask.rising(1, "1-1~", "1-1", "1-1a", "1-1+", "1-1.0", "1-2", "1a-0", "1+-0", "1--0", "1.-0");
    Ask.rising(1, "1-2", "1--2", "1---2");
  }

  private static void revision() {
    Probe.sentence("the REVISION (not empty)");
    Ask.fails(1, "1-", 2);
    Ask.fails(1, "1.0-", 4);
    Ask.fails(1, "1:1-", 4);
    Ask.fails(1, "1-1-", 4);
    Ask.fails(1, "1--", 3);
    Ask.fails(1, "1-$", 2);
    Ask.rangeFails(1, "1- 2", 2);
    Ask.rangeFails(1, "1-||2", 2);
    Ask.rangeFails(1, "1- - 2", 2);
    Ask.rangeFails(1, "1 - 2-", 6);
    Ask.stands(1, "1-0", "1-a", "1-~", "1-.", "1-+", "1--1");
  }

  private static void noRevision() {
    Probe.sentence("the REVISION (\"\" without)");
    Ask.like(1, "1.0", "1.0-0", "1.0-000");
    Ask.rising(1, "1.0-~~", "1.0-~", "1.0-~a", "1.0", "1.0-1", "1.0-a", "1.0-+");
  }

  private static void comparedInTurn() {
    Probe.sentence("Compared: EPOCHS, MAINS, REVISIONS");
    Ask.rising(1, "0-9", "1-0", "1-9", "2-1", "9-9", "1:0-0", "1:0-9", "1:1-0", "2:0-0");
  }

  private static void tilde() {
    Probe.sentence("no digits, sign by sign: ~ less than an end");
    Ask.rising(1, "1~~", "1~~a", "1~", "1~0a", "1~1", "1~a~", "1~a", "1~+", "1", "1a~", "1a", "1.~", "1.");
    Ask.rising(1, "1-1~~", "1-1~", "1-1", "1-1a~", "1-1a");
  }

  private static void lettersAndOthers() {
    Probe.sentence("that less than letters, these less than others (letters, others by their number)");
    Ask.rising(1, "1", "1A", "1B", "1Z", "1a", "1b", "1z", "1+", "1-0-0", "1.");
    Ask.rising(1, "1", "1aA", "1aZ", "1aa", "1az", "1a+", "1a-0-0", "1a.", "1b");
    Ask.rising(1, "1-0", "1-0A", "1-0z", "1-0+", "1-0.");
    Ask.rising(1, "1+", "1+a", "1++", "1+.", "1-a-0", "1.", "1.a", "1.+", "1..");
  }

  private static void digits() {
    Probe.sentence("digits as NUMBERS, 0 in front not counting, none being 0");
    Ask.rising(1, "1.1", "1.2", "1.9", "1.10", "1.11", "1.99", "1.100", "1.18446744073709551615", "1.18446744073709551616");
    Ask.like(1, "1.1", "1.01", "01.001", "1.1-0");
    Ask.like(1, "1.", "1.0", "1.00", "01.");
    Ask.like(1, "1a", "1a0", "1a000");
    Ask.like(1, "0", "00", "0-0", "0:000");
    Ask.like(1, "1-a", "1-a0", "01-a00");
    Ask.rising(1, "1.09", "1.10", "1.011", "1.0100");
    Ask.like(1, "1." + "0".repeat(150) + "7", "1.7");
  }

  private static void turnsMayBeEmpty() {
    Probe.sentence("in turn what are no digits and what are digits, from their beginnings on (each may be empty)");
    Ask.rising(1, "1", "1a", "1a1", "1a1a", "1a1a1", "1a2", "1b", "2", "10");
    Ask.rising(1, "1-~1", "1-0", "1-1", "1-a", "1-a1", "1-aa", "1-b", "1-+1");
    Ask.like(1, "1-0a", "1-00a0");
  }
}
