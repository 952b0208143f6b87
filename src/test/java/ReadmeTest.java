import java.io.IOException;
import java.lang.reflect.Method;
import java.lang.reflect.Modifier;
import java.nio.file.Files;
import java.nio.file.Path;
import java.util.ArrayList;
import java.util.Iterator;
import java.util.List;

/** README.md: the answers that its example tells, and that it names each call of the face. */
public final class ReadmeTest {
  private static final Path README = Path.of("README.md");

  private final Canticle model = new Canticle();
  private final Iterator<String> lines;

  private ReadmeTest(List<String> lines) {
    this.lines = lines.iterator();
  }

  private static List<String> exampleLines(String text) {
    List<String> found = new ArrayList<>();
    for (String line : text.split("\n")) {
      if (line.startsWith("model.")) {
        found.add(line);
      }
    }
    return found;
  }

  /** The next line of the example is this call, and tells what it answered. */
  private void next(String call, Object answered) {
    String line = lines.hasNext() ? lines.next() : "no line";
    String[] parts = line.split("; +// ", 2);
    Check.holds("the example has " + line + ", not " + call, parts[0].equals("model." + call));
    String told = parts.length > 1 ? parts[1].split("[ ,:;]")[0] : "nothing";
    Check.holds(call + " answered " + answered + ", told is " + told,
        told.equals(answered.toString()));
  }

  private void example() {
    next("addWord()", model.addWord());
    next("addWord()", model.addWord());
    next("say(0)", model.say(0));
    next("say(1)", model.say(1));
    next("learn(5)", model.learn(5));
    next("score()", model.score());
    next("hush()", model.hush());
    next("say(0)", model.say(0));
    next("chance(1)", model.chance(1));
    next("chance(2)", model.chance(2));
    next("setWay(3, 750)", model.setWay(3, 750));
    next("chance(1)", model.chance(1));
    next("ranked(0)", model.ranked(0));
    next("complete(2)", model.complete(2));
    next("wordAt(1)", model.wordAt(1));
    next("hush()", model.hush());
    next("addStep(0, 0)", model.addStep(0, 0));
    next("addStep(5, 12)", model.addStep(5, 12));
    next("setLuck(1234)", model.setLuck(1234));
    next("runScript()", model.runScript());
    next("hasEnded()", model.hasEnded());
    next("draws()", model.draws());
    Check.holds("the example has no line more", !lines.hasNext());
  }

  private static void namesEachCall(String text) {
    for (Method method : Canticle.class.getDeclaredMethods()) {
      if (Modifier.isPublic(method.getModifiers())) {
        Check.holds("README.md tells of " + method.getName(),
            text.contains("`" + method.getName() + "`"));
      }
    }
  }

  public static void main(String[] args) throws IOException {
    String text = Files.readString(README);
    new ReadmeTest(exampleLines(text)).example();
    namesEachCall(text);
    Check.end("ReadmeTest");
  }
}
