import java.io.IOException;
import java.lang.reflect.Constructor;
import java.lang.reflect.Field;
import java.lang.reflect.Member;
import java.lang.reflect.Method;
import java.lang.reflect.Modifier;
import java.nio.file.Files;
import java.nio.file.Path;
import java.util.ArrayList;
import java.util.Arrays;
import java.util.List;

/** The document's face, no member beside it, and the rules of LANGUAGE.md that a look at the text can tell. */
public final class FaceTest {
  private static final List<String> FACE = List.of(
      "at(int)int", "both(int,int)int", "compare(int,int)int", "empty(int)boolean", "in(int,int)boolean", "next(int,int)int", "not(int)int",
      "part(int,int)int", "print(int)int", "range()int", "read()int", "sign(int)void");
  private static final Path SOURCE = Path.of("src/main/java/VersionOrders.java");

  public static void main(String[] args) throws IOException {
    face();
    source(Files.readString(SOURCE));
    Probe.end();
  }

  private static void face() {
    Class<VersionOrders> type = VersionOrders.class;
    Probe.due("public and final", type.getModifiers(), Modifier.PUBLIC | Modifier.FINAL);
    Constructor<?>[] constructors = type.getDeclaredConstructors();
    Probe.due("constructors", constructors.length, 1);
    Probe.due("the constructor", constructors[0].toString(), "public VersionOrders(int)");
    List<String> methods = new ArrayList<>();
    for (Method method : type.getDeclaredMethods()) {
      if (!isHidden(method)) {
        methods.add(shown(method));
        Probe.due(method + " is public, no more", method.getModifiers(), Modifier.PUBLIC);
        Probe.due(method + " throws", method.getExceptionTypes().length, method.getName().equals("part") ? 1 : 0);
      } else {
        Probe.due(method + " has a name of its own", FACE.stream().anyMatch(f -> f.startsWith(method.getName() + "(")), false);
      }
    }
    methods.sort(null);
    Probe.due("the methods", methods, FACE);
    for (Field field : type.getDeclaredFields()) {
      Probe.due(field + " is private", isHidden(field), true);
      Probe.due(field + " is no static state", Modifier.isStatic(field.getModifiers()) && !Modifier.isFinal(field.getModifiers()), false);
    }
    for (Class<?> inside : type.getDeclaredClasses()) {
      Probe.due(inside + " is static", Modifier.isStatic(inside.getModifiers()), true);
      Probe.due(inside + " isn't public", Modifier.isPublic(inside.getModifiers()) || Modifier.isProtected(inside.getModifiers()), false);
      Probe.due(inside + " has twenty fields at most", inside.getDeclaredFields().length <= 20, true);
    }
    Probe.due("twelve classes at most", type.getDeclaredClasses().length < 12, true);
  }

  private static boolean isHidden(Member member) {
    return Modifier.isPrivate(member.getModifiers());
  }

  private static String shown(Method method) {
    StringBuilder text = new StringBuilder(method.getName()).append('(');
    Class<?>[] types = method.getParameterTypes();
    for (int i = 0; i < types.length; i++) {
      text.append(i == 0 ? "" : ",").append(types[i].getName());
    }
    return text.append(')').append(method.getReturnType().getName()).toString();
  }

  private static void source(String text) {
    String code = text.replaceAll("(?s)/\\*.*?\\*/", "").replaceAll("//[^\\n]*", "");
    for (String word : new String[] {"catch", "try", "finally", "synchronized", "assert", "protected", "record", "float", "double", "Exact"}) {
      Probe.due("the word " + word, code.matches("(?s).*\\b" + word + "\\b.*"), false);
    }
    for (String part : new String[] {"->", "::", "static {", ".equals(null", "hashCode", "System."}) {
      Probe.due("the signs " + part, code.contains(part), false);
    }
    Probe.due("imports", Arrays.stream(code.split("\n")).filter(l -> l.startsWith("import ")).toList(), List.of("import java.util.ArrayList;"));
    Probe.due("one throw", code.split("\\bthrow\\b", -1).length - 1, 1);
    methodLengths(code.split("\n"));
  }

  /** A method begins with a line that ends in ") {" at the depth of a class's members. */
  private static void methodLengths(String[] lines) {
    int depth = 0;
    int begin = -1;
    int beginDepth = 0;
    for (int i = 0; i < lines.length; i++) {
      boolean opens = lines[i].matches("\\s+[\\w<>\\[\\] ]+\\(.*\\)[\\w ]* \\{") && !lines[i].matches("\\s+(\\} else )?(if|for|while|switch) .*");
      if (opens && begin < 0) {
        begin = i;
        beginDepth = depth;
      }
      depth += lines[i].replaceAll("'.'", "").chars().map(c -> c == '{' ? 1 : c == '}' ? -1 : 0).sum();
      if (begin >= 0 && depth == beginDepth) {
        Probe.due("sixty lines at most from " + lines[begin].trim(), i - begin < 60, true);
        begin = -1;
      }
    }
    Probe.due("braces", depth, 0);
  }
}
