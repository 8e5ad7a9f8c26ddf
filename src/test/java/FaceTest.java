import java.io.IOException;
import java.lang.reflect.Executable;
import java.lang.reflect.Field;
import java.lang.reflect.Member;
import java.lang.reflect.Method;
import java.lang.reflect.Modifier;
import java.nio.file.Files;
import java.nio.file.Path;
import java.util.ArrayList;
import java.util.Arrays;
import java.util.List;

/** The document's face, no member beside it, and the rules of LANGUAGE.md that a look at the text can tell. */
public final class FaceTest {
  private static final Path SOURCE = Path.of("src/main/java/VersionOrders.java");
  private static final Path DOCUMENT = Path.of("../shared/DOC.md");
  private static final String INDENT = "    ";

  public static void main(String[] args) throws IOException {
    List<String> document = documentFace(Files.readString(DOCUMENT));
    Probe.due("the members of the document's face", document.size(), 13);
    face(document);
    inside();
    source(Files.readString(SOURCE));
    Probe.end();
  }

  /** The lines of the document's code block, without the names of parameters: so they compare with what the class has. */
  private static List<String> documentFace(String document) {
    int from = document.indexOf("```java");
    List<String> members = new ArrayList<>();
    for (String line : document.substring(from, document.indexOf("```", from + 3)).split("\n")) {
      if (line.startsWith(INDENT)) {
        members.add(line.strip().replaceAll("(int|boolean) \\w+([,)])", "$1$2").replace(";", ""));
      }
    }
    members.sort(null);
    return members;
  }

  private static void face(List<String> document) {
    Class<VersionOrders> type = VersionOrders.class;
    Probe.due("public and final", type.getModifiers(), Modifier.PUBLIC | Modifier.FINAL);
    List<String> members = new ArrayList<>();
    List<Executable> all = new ArrayList<>(List.of(type.getDeclaredConstructors()));
    all.addAll(List.of(type.getDeclaredMethods()));
    for (Executable member : all) {
      if (!isHidden(member)) {
        members.add(shown(member));
      } else {
        Probe.due(member + " has a name of its own", document.stream().anyMatch(d -> d.contains(" " + member.getName() + "(")), false);
      }
    }
    members.sort(null);
    Probe.due("the face", members, document);
    for (Field field : type.getDeclaredFields()) {
      Probe.due(field + " is private", isHidden(field), true);
      Probe.due(field + " is no static state", Modifier.isStatic(field.getModifiers()) && !Modifier.isFinal(field.getModifiers()), false);
    }
  }

  private static void inside() {
    Class<?>[] types = VersionOrders.class.getDeclaredClasses();
    for (Class<?> inside : types) {
      Probe.due(inside + " is static", Modifier.isStatic(inside.getModifiers()), true);
      Probe.due(inside + " isn't public", Modifier.isPublic(inside.getModifiers()) || Modifier.isProtected(inside.getModifiers()), false);
      Probe.due(inside + " has twenty fields at most", inside.getDeclaredFields().length <= 20, true);
      for (Field field : inside.getDeclaredFields()) {
        Probe.due(field + " is no static state", Modifier.isStatic(field.getModifiers()) && !Modifier.isFinal(field.getModifiers()), false);
      }
      for (Method method : inside.getDeclaredMethods()) {
        Probe.due(method + " takes seven parameters at most", method.getParameterCount() <= 7, true);
      }
    }
    Probe.due("twelve classes at most", types.length < 12, true);
  }

  private static boolean isHidden(Member member) {
    return Modifier.isPrivate(member.getModifiers());
  }

  private static String shown(Executable member) {
    StringBuilder text = new StringBuilder(Modifier.toString(member.getModifiers())).append(' ');
    text.append(member instanceof Method method ? method.getReturnType() + " " : "").append(member.getName()).append('(');
    Class<?>[] types = member.getParameterTypes();
    for (int i = 0; i < types.length; i++) {
      text.append(i == 0 ? "" : ", ").append(types[i].getName());
    }
    text.append(')');
    for (Class<?> thrown : member.getExceptionTypes()) {
      text.append(" throws ").append(thrown.getSimpleName());
    }
    return text.toString();
  }

  private static void source(String text) {
    String code = text.replaceAll("(?s)/\\*.*?\\*/", "").replaceAll("//[^\\n]*", "");
    for (String word : new String[] {"catch", "try", "finally", "synchronized", "assert", "protected", "record", "float", "double", "Exact"}) {
      Probe.due("the word " + word, code.matches("(?s).*\\b" + word + "\\b.*"), false);
    }
    for (String part : new String[] {"->", "::", "static {", ".equals(null", "hashCode", "System."}) {
      Probe.due("the signs " + part, code.contains(part), false);
    }
    Probe.due("imports", Arrays.stream(code.split("\n")).filter(l -> l.startsWith("import ")).toList(), List.of("import java.util.ArrayList;"));
    Probe.due("one throw", code.split("\\bthrow\\b", -1).length - 1, 1);
    methodLengths(code.split("\n"));
  }

  /** A method begins with a line that ends in ") {" at the depth of a class's members. */
  private static void methodLengths(String[] lines) {
    int depth = 0;
    int begin = -1;
    int beginDepth = 0;
    for (int i = 0; i < lines.length; i++) {
      boolean opens = lines[i].matches("\\s+[\\w<>\\[\\] ]+\\(.*\\)[\\w ]* \\{") && !lines[i].matches("\\s+(\\} else )?(if|for|while|switch) .*");
      if (opens && begin < 0) {
        begin = i;
        beginDepth = depth;
      }
      depth += lines[i].replaceAll("'.'", "").chars().map(c -> c == '{' ? 1 : c == '}' ? -1 : 0).sum();
      if (begin >= 0 && depth == beginDepth) {
        Probe.due("sixty lines at most from " + lines[begin].trim(), i - begin < 60, true);
        begin = -1;
      }
    }
    Probe.due("braces", depth, 0);
  }
}
