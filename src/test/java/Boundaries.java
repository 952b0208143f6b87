import java.io.IOException;
import java.nio.file.Files;
import java.nio.file.Path;
import java.util.Map;
import java.util.TreeMap;
import java.util.TreeSet;

/** A test for each sentence of the document that names a bound, kept by the sentence. */
abstract class Boundaries extends Scenes {
  interface Make {
    Canticle make();
  }

  interface Act {
    long on(Canticle x);
  }

  private static final Path DOCUMENT = Path.of("../shared/DOC.md");
  private static final Map<String, String> SECTIONS = sections();
  private static final TreeSet<String> TOLD = new TreeSet<>();

  /** Runs the test of a sentence, or of a part of one, that stands under a heading. */
  static void sentence(String heading, String text, Runnable test) {
    String told = heading + ": \"" + text + "\": ";
    Check.about(told);
    Check.holds("no sentence has two tests", TOLD.add(told));
    boolean stands = SECTIONS.isEmpty() || SECTIONS.getOrDefault(heading, "").contains(text);
    Check.holds("the document says so", stands);
    int before = Check.made();
    test.run();
    Check.holds("the test checks something", Check.made() > before);
    Check.about("");
  }

  /** Each sentence that says when a promise throws must have had its test. */
  static void eachThrowsWasTold() {
    for (Map.Entry<String, String> section : SECTIONS.entrySet()) {
      for (String paragraph : section.getValue().split("\n")) {
        String told = section.getKey() + ": \"" + paragraph + "\": ";
        boolean owed = section.getKey().startsWith("Promise") && paragraph.startsWith("Throws ");
        Check.holds("no test of " + told, !owed || TOLD.contains(told));
      }
    }
  }

  /** By heading what stands below it; empty where the document is not at hand. */
  private static Map<String, String> sections() {
    Map<String, String> sections = new TreeMap<>();
    try {
      if (Files.isReadable(DOCUMENT)) {
        for (String section : Files.readString(DOCUMENT).split("\n## ")) {
          String[] parts = section.split("\n", 2);
          sections.put(parts[0], parts.length > 1 ? parts[1] : "");
        }
      }
    } catch (IOException e) {
      sections.clear();
    }
    return sections;
  }

  /** The call throws, and from then on all is as in an object that never had it. */
  static void refused(Make scene, String what, String exception, Act call) {
    Canticle x = scene.make();
    Check.throwing(what, exception, () -> call.on(x));
    sameAs(scene, what, x);
  }

  /** The call answers what is due, and changes nothing. */
  static void answered(Make scene, String what, long due, Act call) {
    Canticle x = scene.make();
    Check.same(what, call.on(x), due);
    sameAs(scene, what, x);
  }

  private static void sameAs(Make scene, String what, Canticle x) {
    String got = allAnswers(x);
    String due = allAnswers(scene.make());
    Check.holds(what + " changed something: " + got + " is not " + due, got.equals(due));
  }

  /** What an object holds, also that which no single call tells: WAY, NUMBER, SCRIPT. */
  private static String allAnswers(Canticle x) {
    StringBuilder all = new StringBuilder();
    Act[] calls = {
      Canticle::digest, Canticle::score, o -> o.scoreBy(0, 1), o -> o.scoreBy(4, 999),
      o -> o.scoreLearned(1), Canticle::wouldDraw, Canticle::runScript, Canticle::digest,
      Canticle::hush, o -> o.say(0), Canticle::runScript, Canticle::digest,
      Canticle::clearScript, o -> o.setWay(0, 500), Canticle::digest, o -> o.learn(7),
      Canticle::digest, Canticle::unlearn, Canticle::digest
    };
    for (Act call : calls) {
      all.append(Check.answer(() -> call.on(x))).append(' ');
    }
    return all.toString();
  }
}
