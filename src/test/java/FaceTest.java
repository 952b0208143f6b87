import java.io.IOException;
import java.lang.reflect.Constructor;
import java.lang.reflect.Field;
import java.lang.reflect.Method;
import java.lang.reflect.Modifier;
import java.nio.file.Files;
import java.nio.file.Path;
import java.util.ArrayList;
import java.util.Arrays;
import java.util.List;
import java.util.TreeSet;

/** The public face, and those rules of LANGUAGE.md that a look at the source can tell. */
public final class FaceTest {
  private static final String SOURCE = "src/main/java/Canticle.java";
  private static final String STATE = "IllegalStateException";
  private static final String ARGUMENT = "IllegalArgumentException";
  private static final String INDEX = "IndexOutOfBoundsException";

  private static final String[] FACE = {
    "int addWord() " + STATE,
    "int setOrder(int) " + ARGUMENT,
    "int say(int) " + INDEX + " " + STATE,
    "int hush()",
    "int learn(int) " + ARGUMENT + " " + STATE,
    "int unlearn() " + STATE,
    "int words()",
    "int order()",
    "int length()",
    "int wordAt(int) " + INDEX,
    "int entries(int) " + ARGUMENT,
    "int entryAt(int,int,int) " + ARGUMENT + " " + INDEX,
    "int countOf(int,int) " + ARGUMENT + " " + INDEX,
    "int ofContext(int,int) " + ARGUMENT,
    "int prune(int,int) " + ARGUMENT,
    "int pruneBy(int,int) " + ARGUMENT,
    "int setWay(int,int) " + ARGUMENT,
    "int chance(int) " + INDEX,
    "int ranked(int) " + INDEX,
    "int costOf(int)",
    "int score()",
    "double meanCost()",
    "int complete(int) " + ARGUMENT + " " + STATE,
    "int setLuck(int) " + ARGUMENT,
    "int addStep(int,int) " + ARGUMENT + " " + STATE,
    "int clearScript()",
    "int runScript() " + STATE,
    "boolean hasEnded()",
    "int luck()",
    "int draws()",
    "int scoreLearned(int) " + ARGUMENT + " " + STATE,
    "int scoreBy(int,int) " + ARGUMENT,
    "int wouldDraw() " + STATE,
    "long digest()"
  };

  private static String told(Method method) {
    StringBuilder text = new StringBuilder();
    text.append(method.getReturnType().getSimpleName()).append(' ').append(method.getName());
    List<String> types = new ArrayList<>();
    for (Class<?> type : method.getParameterTypes()) {
      types.add(type.getSimpleName());
    }
    text.append('(').append(String.join(",", types)).append(')');
    for (Class<?> type : method.getExceptionTypes()) {
      text.append(' ').append(type.getSimpleName());
    }
    return text.toString();
  }

  private static void face() {
    TreeSet<String> open = new TreeSet<>();
    TreeSet<String> names = new TreeSet<>();
    List<Method> hidden = new ArrayList<>();
    for (Method method : Canticle.class.getDeclaredMethods()) {
      if (Modifier.isPublic(method.getModifiers())) {
        open.add(told(method));
        names.add(method.getName());
      } else if (!method.isSynthetic()) {
        hidden.add(method);
      }
    }
    TreeSet<String> due = new TreeSet<>(Arrays.asList(FACE));
    Check.holds("the face is " + open + ", due is " + due, open.equals(due));
    for (Method method : hidden) {
      Check.holds(method + " is private", Modifier.isPrivate(method.getModifiers()));
      Check.holds(method + " bears no name of the face", !names.contains(method.getName()));
    }
    for (Field field : Canticle.class.getDeclaredFields()) {
      Check.holds(field + " is private", Modifier.isPrivate(field.getModifiers()));
      boolean still = Modifier.isFinal(field.getModifiers());
      Check.holds(field + " is final if static", still || !Modifier.isStatic(field.getModifiers()));
    }
    int modifiers = Canticle.class.getModifiers();
    Check.holds("final", Modifier.isPublic(modifiers) && Modifier.isFinal(modifiers));
    Constructor<?>[] constructors = Canticle.class.getDeclaredConstructors();
    Check.holds("one public constructor without parameters", constructors.length == 1
        && constructors[0].getParameterCount() == 0
        && Modifier.isPublic(constructors[0].getModifiers()));
  }

  private static void inside() {
    Class<?>[] inside = Canticle.class.getDeclaredClasses();
    Check.holds("some twelve classes", inside.length < 12);
    for (Class<?> one : inside) {
      int modifiers = one.getModifiers();
      Check.holds(one + " is static", Modifier.isStatic(modifiers));
      Check.holds(one + " is not open",
          !Modifier.isPublic(modifiers) && !Modifier.isProtected(modifiers));
      int fields = 0;
      for (Field field : one.getDeclaredFields()) {
        boolean fixed = Modifier.isStatic(field.getModifiers());
        fields += fixed ? 0 : 1;
        Check.holds(field + " is final if static", !fixed || Modifier.isFinal(field.getModifiers()));
      }
      Check.holds(one + " has some twenty fields at most", fields <= 20);
      for (Method method : one.getDeclaredMethods()) {
        Check.holds(method + " takes at most seven parameters", method.getParameterCount() <= 7);
      }
    }
  }

  private static void source() throws IOException {
    String text = Files.readString(Path.of(SOURCE));
    String code = text.replaceAll("(?s)/\\*.*?\\*/", "").replaceAll("//[^\n]*", "");
    String[] never = {
      "->", "::", "catch", "finally", "synchronized", "assert", "package ", "System.out", "Exact(",
      "MAX_VALUE", "MIN_VALUE", "getClass", "hashCode", "equals(", "Object", "@", "static {",
      "import java.util.*", "Random", "nanoTime", "currentTimeMillis", "\" +", "+ \""
    };
    for (String token : never) {
      Check.holds("the source has no " + token, !code.contains(token));
    }
    for (String line : text.split("\n")) {
      Check.holds("import: " + line, !line.startsWith("import") || line.equals("import java.util.Arrays;"));
      Check.holds("a line is not too long: " + line, line.length() <= 100);
    }
    Check.holds("signs 1 to 127", text.chars().allMatch(c -> c > 0 && c < 128));
    methodsAreShort(text.split("\n"));
  }

  private static void methodsAreShort(String[] lines) {
    int start = -1;
    String closing = "";
    for (int at = 0; at < lines.length; at++) {
      String line = lines[at];
      if (start < 0 && line.matches("( {2}| {4})[a-zA-Z].*\\(.*") && line.endsWith("{")) {
        start = at;
        closing = line.substring(0, line.length() - line.stripLeading().length()) + "}";
      } else if (start >= 0 && line.equals(closing)) {
        Check.holds("short: " + lines[start], at - start <= 60);
        start = -1;
      }
    }
  }

  public static void main(String[] args) throws IOException {
    face();
    inside();
    source();
    Check.end("FaceTest");
  }
}
