import java.util.Arrays;
import java.util.List;

/** Each promise of the document: ordinary inputs, the edges it names, wrong inputs. */
public final class PromiseTest extends Scenes {
  private static void newObject1() {
    Canticle x = new Canticle();
    Check.same("new words()", x.words(), 0);
    Check.same("new order()", x.order(), 2);
    Check.same("new length()", x.length(), 0);
    Check.same("new entries(1)", x.entries(1), 0);
    Check.same("new entries(2)", x.entries(2), 0);
    Check.same("new luck()", x.luck(), 0);
    Check.same("new draws()", x.draws(), 0);
    Check.holds("new hasEnded()", !x.hasEnded());
    Check.same("new clearScript()", x.clearScript(), 0);
    Check.same("new chance(0)", x.chance(0), 1000000);
    Check.same("new setWay", x.setWay(3, 1), 0);
    Canticle a = new Canticle();
    a.addWord();
    Check.same("another object's words()", new Canticle().words(), 0);
    // The NUMBER of a new object is 500: (1000 + 500) * UNIT / (1000 + 500 * 2).
    teach(a, 1, 0);
    Check.same("chance with the first NUMBER", a.chance(1), 750000);
  }

  private static void addWord2() {
    Canticle x = new Canticle();
    for (int i = 0; i < 12; i++) {
      Check.same("addWord()", x.addWord(), i);
      Check.same("words()", x.words(), i + 1);
    }
    teach(x, 2, 11, 0);
    Check.refused(x, "addWord() of the 13th", Check.STATE, x::addWord);
    Canticle y = small();
    y.setOrder(3);
    teach(y, 3, 0, 1);
    y.addStep(2, 1);
    y.setLuck(5);
    y.setWay(2, 7);
    Check.same("addWord() later", y.addWord(), 2);
    for (int n = 1; n <= 3; n++) {
      Check.same("entries behind addWord()", y.entries(n), 0);
    }
    Check.same("length() behind addWord()", y.length(), 0);
    Check.same("order() behind addWord()", y.order(), 3);
    Check.same("luck() behind addWord()", y.luck(), 5);
    Check.same("WAY behind addWord()", y.setWay(4, 7), 2);
    chancesAre("behind addWord()", y, 250000, 250000, 250000, 250000);
    Check.same("SCRIPT behind addWord()", y.clearScript(), 1);
  }

  private static void setOrder3() {
    Canticle x = small();
    Check.refused(x, "setOrder(0)", Check.ARGUMENT, () -> x.setOrder(0));
    Check.refused(x, "setOrder(5)", Check.ARGUMENT, () -> x.setOrder(5));
    Check.refused(x, "setOrder(MIN)", Check.ARGUMENT, () -> x.setOrder(MIN));
    Check.refused(x, "setOrder(MAX)", Check.ARGUMENT, () -> x.setOrder(MAX));
    Check.same("setOrder(2) again", x.setOrder(2), 2);
    Check.same("entries(1) behind the same ORDER", x.entries(1), 0);
    Check.same("entries(2) behind the same ORDER", x.entries(2), 0);
    row("the SENTENCE behind setOrder", x, 0);
    chancesAre("behind setOrder", x, 333333, 333333, 333333);
    Check.same("setOrder(4)", x.setOrder(4), 2);
    Check.same("setOrder(1)", x.setOrder(1), 4);
    Check.same("order()", x.order(), 1);
    x.learn(1);
    Check.same("setOrder(4)", x.setOrder(4), 1);
    Check.same("entries(4)", x.entries(4), 0);
    x.setWay(4, 500);
    chancesAre("VARIED behind setOrder", x, 333333, 333333, 333333);
  }

  private static void say4() {
    Canticle none = new Canticle();
    Check.refused(none, "say(0) without WORDS", Check.INDEX, () -> none.say(0));
    Canticle x = withWords(2);
    for (int i = 0; i < 12; i++) {
      Check.same("say", x.say(i % 2), i + 1);
    }
    Check.refused(x, "say(0) behind 12", Check.STATE, () -> x.say(0));
    Check.refused(x, "say(2) behind 12", Check.INDEX, () -> x.say(2));
    x.hush();
    Check.refused(x, "say(2)", Check.INDEX, () -> x.say(2));
    Check.refused(x, "say(-1)", Check.INDEX, () -> x.say(-1));
    Check.refused(x, "say(MIN)", Check.INDEX, () -> x.say(MIN));
    Check.refused(x, "say(MAX)", Check.INDEX, () -> x.say(MAX));
    x.say(1);
    x.say(0);
    row("what was said", x, 1, 0);
  }

  private static void hush5() {
    Canticle x = small();
    Check.same("hush()", x.hush(), 1);
    Check.same("hush() again", x.hush(), 0);
    Check.same("length()", x.length(), 0);
    Check.same("entries(2) stay", x.entries(2), 4);
    x.say(1);
    row("said behind hush()", x, 1);
  }

  private static void learn6() {
    Canticle none = new Canticle();
    Check.refused(none, "learn(1) without WORDS", Check.STATE, () -> none.learn(1));
    Check.refused(none, "learn(0) without WORDS", Check.ARGUMENT, () -> none.learn(0));
    Canticle x = withWords(2);
    speak(x, 0, 1);
    Check.refused(x, "learn(0)", Check.ARGUMENT, () -> x.learn(0));
    Check.refused(x, "learn(101)", Check.ARGUMENT, () -> x.learn(101));
    Check.refused(x, "learn(MIN)", Check.ARGUMENT, () -> x.learn(MIN));
    Check.refused(x, "learn(MAX)", Check.ARGUMENT, () -> x.learn(MAX));
    Check.same("learn(3)", x.learn(3), 6);
    row("the SENTENCE stays", x, 0, 1);
    speak(x, 0);
    Check.same("learn(1)", x.learn(1), 7);
    entriesAre("learned", x, 1, of(0, 4), of(1, 3), of(2, 4));
    entriesAre("learned", x, 2, of(-1, 0, 4), of(0, 1, 3), of(0, 2, 1), of(1, 2, 3));
    x.hush();
    Check.same("learn(100) of the empty SENTENCE", x.learn(100), 8);
    entriesAre("learned", x, 1, of(0, 4), of(1, 3), of(2, 104));
    Canticle y = withWords(1);
    y.setOrder(4);
    speak(y, 0, 0, 0, 0);
    Check.same("learn(2) of one WORD again and again", y.learn(2), 2 + 3 + 4 + 5);
    entriesAre("again", y, 1, of(0, 8), of(1, 2));
    entriesAre("again", y, 2, of(-1, 0, 2), of(0, 0, 6), of(0, 1, 2));
    entriesAre("again", y, 3, of(-1, -1, 0, 2), of(-1, 0, 0, 2), of(0, 0, 0, 4), of(0, 0, 1, 2));
    entriesAre("again", y, 4, of(-1, -1, -1, 0, 2), of(-1, -1, 0, 0, 2), of(-1, 0, 0, 0, 2),
        of(0, 0, 0, 0, 2), of(0, 0, 0, 1, 2));
  }

  private static void learnUpToTheLimit6() {
    Canticle x = full();
    Check.same("ENTRIES at the limit", entriesInAll(x), 800);
    Check.same("learn(5) of what is known, at the limit", x.learn(5), 800);
    speak(x, 1, 4);
    x.setWay(4, 300);
    Check.refused(x, "learn(1) of one ENTRY more", Check.STATE, () -> x.learn(1));
    Check.refused(x, "learn(100) of one ENTRY more", Check.STATE, () -> x.learn(100));
    Check.refused(x, "learn(0) at the limit", Check.ARGUMENT, () -> x.learn(0));
    long before = x.digest();
    Check.holds("scoreLearned() above the limit", x.scoreLearned(100) < x.score());
    Check.same("digest() behind scoreLearned() above the limit", x.digest(), before);
    int seven = 0;
    for (int at = 0; at < 12; at++) {
      seven = seven * 7 + 5;
      if (x.length() == 12) {
        x.hush();
      }
      x.say(Math.floorMod(seven, 12));
    }
    long full = x.digest();
    x.scoreLearned(1);
    Check.same("digest() behind scoreLearned() of 12 WORDS", x.digest(), full);
    x.prune(4, 1000);
    Check.holds("learn(1) behind prune", x.learn(1) <= 800);
  }

  private static void unlearn7() {
    Canticle x = withWords(2);
    Check.refused(x, "unlearn() of nothing", Check.STATE, x::unlearn);
    Canticle none = new Canticle();
    Check.refused(none, "unlearn() without WORDS", Check.STATE, none::unlearn);
    teach(x, 2, 0, 1);
    teach(x, 1, 0);
    Check.same("unlearn() of 0", x.unlearn(), 1);
    entriesAre("unlearned", x, 1, of(0, 2), of(1, 2), of(2, 2));
    entriesAre("unlearned", x, 2, of(-1, 0, 2), of(0, 1, 2), of(1, 2, 2));
    Check.refused(x, "unlearn() of 0 again", Check.STATE, x::unlearn);
    speak(x, 0, 1);
    Check.same("unlearn() of 0 1", x.unlearn(), 0);
    Check.same("unlearn() of 0 1 again", x.unlearn(), 6);
    row("the SENTENCE stays", x, 0, 1);
    Check.same("entries(1)", x.entries(1), 0);
    Check.same("entries(2)", x.entries(2), 0);
    x.setWay(4, 500);
    chancesAre("VARIED behind unlearn()", x, 333333, 333333, 333333);
    Canticle y = withWords(1);
    teach(y, 1, 0, 0);
    teach(y, 1, 0);
    speak(y, 0, 0, 0);
    Check.refused(y, "unlearn() of (0 0) twice, there once", Check.STATE, y::unlearn);
    teach(y, 1, 0, 0);
    speak(y, 0, 0, 0);
    Check.same("unlearn() of what others taught", y.unlearn(), 1);
    entriesAre("left", y, 1, of(0, 2), of(1, 2));
    entriesAre("left", y, 2, of(-1, 0, 2), of(0, 1, 2));
    Canticle z = small();
    z.prune(2, 2);
    Check.refused(z, "unlearn() of a pruned ENTRY", Check.STATE, z::unlearn);
  }

  private static void plainOnes8To11() {
    Canticle x = withWords(5);
    Check.same("words()", x.words(), 5);
    Check.same("order()", x.order(), 2);
    x.setOrder(4);
    Check.same("order()", x.order(), 4);
    Check.same("length()", x.length(), 0);
    Check.refused(x, "wordAt(0) of nothing", Check.INDEX, () -> x.wordAt(0));
    speak(x, 4, 0, 3);
    Check.same("length()", x.length(), 3);
    row("said", x, 4, 0, 3);
    Check.refused(x, "wordAt(-1)", Check.INDEX, () -> x.wordAt(-1));
    Check.refused(x, "wordAt(3)", Check.INDEX, () -> x.wordAt(3));
    Check.refused(x, "wordAt(12)", Check.INDEX, () -> x.wordAt(12));
    Check.refused(x, "wordAt(MIN)", Check.INDEX, () -> x.wordAt(MIN));
    Check.refused(x, "wordAt(MAX)", Check.INDEX, () -> x.wordAt(MAX));
    x.hush();
    Check.refused(x, "wordAt(0) behind hush()", Check.INDEX, () -> x.wordAt(0));
  }

  private static void entries12() {
    Canticle x = small();
    Check.same("entries(1)", x.entries(1), 3);
    Check.same("entries(2)", x.entries(2), 4);
    Check.refused(x, "entries(0)", Check.ARGUMENT, () -> x.entries(0));
    Check.refused(x, "entries(3)", Check.ARGUMENT, () -> x.entries(3));
    Check.refused(x, "entries(MIN)", Check.ARGUMENT, () -> x.entries(MIN));
    Check.refused(x, "entries(MAX)", Check.ARGUMENT, () -> x.entries(MAX));
    x.setOrder(4);
    Check.same("entries(4)", x.entries(4), 0);
  }

  private static void entryAtAndCountOf13And14() {
    Canticle x = withWords(3);
    x.setOrder(3);
    teach(x, 1, 2, 0);
    teach(x, 2, 0, 2);
    teach(x, 4, 0);
    teach(x, 8);
    // BEGIN stands ahead of all WORDS, the END behind them, and the CONTEXT counts first.
    entriesAre("numbered", x, 3, of(-1, -1, 0, 6), of(-1, -1, 2, 1), of(-1, -1, 3, 8),
        of(-1, 0, 2, 2), of(-1, 0, 3, 4), of(-1, 2, 0, 1), of(0, 2, 3, 2), of(2, 0, 3, 1));
    entriesAre("numbered", x, 2, of(-1, 0, 6), of(-1, 2, 1), of(-1, 3, 8), of(0, 2, 2),
        of(0, 3, 5), of(2, 0, 1), of(2, 3, 2));
    entriesAre("numbered", x, 1, of(0, 7), of(2, 3), of(3, 15));
    Check.refused(x, "entryAt(0, 0, 0)", Check.ARGUMENT, () -> x.entryAt(0, 0, 0));
    Check.refused(x, "entryAt(4, 0, 0)", Check.ARGUMENT, () -> x.entryAt(4, 0, 0));
    Check.refused(x, "entryAt(4, -1, -1)", Check.ARGUMENT, () -> x.entryAt(4, -1, -1));
    Check.refused(x, "entryAt(3, 8, 0)", Check.INDEX, () -> x.entryAt(3, 8, 0));
    Check.refused(x, "entryAt(3, -1, 0)", Check.INDEX, () -> x.entryAt(3, -1, 0));
    Check.refused(x, "entryAt(3, 0, 3)", Check.INDEX, () -> x.entryAt(3, 0, 3));
    Check.refused(x, "entryAt(3, 0, -1)", Check.INDEX, () -> x.entryAt(3, 0, -1));
    Check.refused(x, "entryAt(1, 0, 1)", Check.INDEX, () -> x.entryAt(1, 0, 1));
    Check.refused(x, "entryAt(3, MAX, 0)", Check.INDEX, () -> x.entryAt(3, MAX, 0));
    Check.refused(x, "entryAt(3, 0, MIN)", Check.INDEX, () -> x.entryAt(3, 0, MIN));
    Check.refused(x, "countOf(0, 0)", Check.ARGUMENT, () -> x.countOf(0, 0));
    Check.refused(x, "countOf(4, -1)", Check.ARGUMENT, () -> x.countOf(4, -1));
    Check.refused(x, "countOf(3, 8)", Check.INDEX, () -> x.countOf(3, 8));
    Check.refused(x, "countOf(3, -1)", Check.INDEX, () -> x.countOf(3, -1));
    Check.refused(x, "countOf(1, 3)", Check.INDEX, () -> x.countOf(1, 3));
    Check.refused(x, "countOf(1, MIN)", Check.INDEX, () -> x.countOf(1, MIN));
  }

  private static void ofContext15() {
    Canticle x = small();
    Check.same("c of nothing", x.ofContext(1, 0), 11);
    Check.same("t of nothing", x.ofContext(1, 1), 3);
    Check.same("c of (0)", x.ofContext(2, 0), 4);
    Check.same("t of (0)", x.ofContext(2, 1), 2);
    x.setWay(4, 500);
    Check.same("c of nothing is by COUNTS", x.ofContext(1, 0), 11);
    x.hush();
    Check.same("c of (BEGIN)", x.ofContext(2, 0), 4);
    Check.same("t of (BEGIN)", x.ofContext(2, 1), 1);
    Check.refused(x, "ofContext(0, 0)", Check.ARGUMENT, () -> x.ofContext(0, 0));
    Check.refused(x, "ofContext(3, 0)", Check.ARGUMENT, () -> x.ofContext(3, 0));
    Check.refused(x, "ofContext(1, 2)", Check.ARGUMENT, () -> x.ofContext(1, 2));
    Check.refused(x, "ofContext(1, -1)", Check.ARGUMENT, () -> x.ofContext(1, -1));
    Check.refused(x, "ofContext(MAX, MIN)", Check.ARGUMENT, () -> x.ofContext(MAX, MIN));
    x.setOrder(4);
    teach(x, 3, 0, 1);
    speak(x, 0);
    Check.same("c of (BEGIN BEGIN 0)", x.ofContext(4, 0), 3);
    speak(x, 1, 0);
    Check.same("c of (BEGIN 1 0)", x.ofContext(4, 0), 0);
    Check.same("t of (BEGIN 1 0)", x.ofContext(4, 1), 0);
    Check.same("c of (1 0)", x.ofContext(3, 0), 0);
    Check.same("c of (0)", x.ofContext(2, 0), 3);
  }

  private static void prune16() {
    Canticle x = small();
    Check.refused(x, "prune(1, 1)", Check.ARGUMENT, () -> x.prune(1, 1));
    Check.refused(x, "prune(0, 1)", Check.ARGUMENT, () -> x.prune(0, 1));
    Check.refused(x, "prune(3, 1)", Check.ARGUMENT, () -> x.prune(3, 1));
    Check.refused(x, "prune(2, 0)", Check.ARGUMENT, () -> x.prune(2, 0));
    Check.refused(x, "prune(2, 1001)", Check.ARGUMENT, () -> x.prune(2, 1001));
    Check.refused(x, "prune(MIN, MAX)", Check.ARGUMENT, () -> x.prune(MIN, MAX));
    Check.same("prune(2, 1)", x.prune(2, 1), 0);
    Check.same("prune(2, 3)", x.prune(2, 3), 1);
    entriesAre("pruned", x, 2, of(-1, 0, 4), of(0, 1, 3), of(1, 2, 3));
    entriesAre("of another order", x, 1, of(0, 4), of(1, 3), of(2, 4));
    Check.same("prune(2, 4)", x.prune(2, 4), 2);
    entriesAre("pruned", x, 2, of(-1, 0, 4));
    x.setWay(4, 750);
    // VARIED tells of the one ENTRY that is left: (250 * UNIT + 750 * 333333) / 1000.
    chancesAre("VARIED behind prune", x, 499999, 249999, 249999);
    Check.same("prune(2, 1000)", x.prune(2, 1000), 1);
    Check.same("prune(2, 1000) of nothing", x.prune(2, 1000), 0);
    Canticle y = withWords(1);
    for (int i = 0; i < 10; i++) {
      teach(y, 100, 0);
    }
    Check.same("prune(2, 1000) of 1000", y.prune(2, 1000), 0);
    Check.same("learn(1) behind prune", y.learn(1), 4);
  }

  private static void pruneBy17() {
    Canticle x = small();
    Check.refused(x, "pruneBy(1, 1)", Check.ARGUMENT, () -> x.pruneBy(1, 1));
    Check.refused(x, "pruneBy(0, 1)", Check.ARGUMENT, () -> x.pruneBy(0, 1));
    Check.refused(x, "pruneBy(3, 1)", Check.ARGUMENT, () -> x.pruneBy(3, 1));
    Check.refused(x, "pruneBy(2, 0)", Check.ARGUMENT, () -> x.pruneBy(2, 0));
    Check.refused(x, "pruneBy(2, 1000001)", Check.ARGUMENT, () -> x.pruneBy(2, 1000001));
    Check.refused(x, "pruneBy(MAX, MIN)", Check.ARGUMENT, () -> x.pruneBy(MAX, MIN));
    // By ADDED the chances of (0 END) are 272727 and 360000, those of (0 1) 636363 and 280000,
    // of (1 END) 777777 and 360000, of (BEGIN 0) 818181 and 360000.
    Check.same("pruneBy(2, 87273)", x.pruneBy(2, 87273), 0);
    Check.same("pruneBy(2, 87274)", x.pruneBy(2, 87274), 1);
    entriesAre("pruned", x, 2, of(-1, 0, 4), of(0, 1, 3), of(1, 2, 3));
    Check.same("entries(1)", x.entries(1), 3);
    Check.same("pruneBy(2, 1000000)", x.pruneBy(2, 1000000), 3);
    Check.same("entries(2)", x.entries(2), 0);
    Canticle y = withWords(1);
    y.setOrder(3);
    teach(y, 1, 0);
    y.setWay(1, 1000);
    Check.same("pruneBy(3, 1) of equal chances", y.pruneBy(3, 1), 2);
    Check.same("pruneBy(2, 1) of chances 500000 apart", y.pruneBy(2, 1), 0);
    allAheadOfThat17();
  }

  /** By VARIED each ENTRY that is gone moves the chances of the shorter CONTEXT. */
  private static void allAheadOfThat17() {
    for (int parts = 20000; parts <= 600000; parts += 20000) {
      Canticle x = withWords(3);
      NaiveModel y = new NaiveModel();
      y.v = 3;
      int[][] rows = {{0, 1, 2}, {1, 1, 0}, {2, 0}, {0, 0, 1, 2}, {1}};
      for (int[] row : rows) {
        teach(x, row.length, row);
        y.hush();
        for (int w : row) {
          y.say(w);
        }
        y.learn(row.length);
      }
      x.setWay(4, 900);
      y.setWay(4, 900);
      Check.same("pruneBy(2, " + parts + ")", x.pruneBy(2, parts), y.pruneBy(2, parts));
      Check.same("digest() behind pruneBy(2, " + parts + ")", x.digest(), y.digest());
    }
  }

  private static void setWay18() {
    Canticle x = small();
    Check.refused(x, "setWay(-1, 1)", Check.ARGUMENT, () -> x.setWay(-1, 1));
    Check.refused(x, "setWay(5, 1)", Check.ARGUMENT, () -> x.setWay(5, 1));
    Check.refused(x, "setWay(0, 0)", Check.ARGUMENT, () -> x.setWay(0, 0));
    Check.refused(x, "setWay(0, 1001)", Check.ARGUMENT, () -> x.setWay(0, 1001));
    Check.refused(x, "setWay(MIN, MAX)", Check.ARGUMENT, () -> x.setWay(MIN, MAX));
    int before = 0;
    for (int way = 0; way <= 4; way++) {
      Check.same("setWay(" + way + ", 1)", x.setWay(way, 1), before);
      Check.same("setWay(" + way + ", 1000)", x.setWay(way, 1000), way);
      before = way;
    }
    Check.same("entries stay", x.entries(2), 4);
    x.setWay(0, 1000);
    chancesAre("ADDED, 1000", x, 142857, 571428, 285714);
  }

  private static void chance19() {
    Canticle x = small();
    chancesAre("ADDED", x, 90909, 636363, 272727);
    x.setWay(1, 500);
    chancesAre("MIXED", x, 174242, 526515, 299242);
    x.setWay(2, 1);
    chancesAre("SEEN", x, 119047, 595238, 285714);
    x.setWay(3, 750);
    chancesAre("TAKEN", x, 136363, 664772, 198863);
    x.setWay(4, 750);
    chancesAre("VARIED", x, 93749, 656249, 249999);
    Check.refused(x, "chance(3)", Check.INDEX, () -> x.chance(3));
    Check.refused(x, "chance(-1)", Check.INDEX, () -> x.chance(-1));
    Check.refused(x, "chance(MIN)", Check.INDEX, () -> x.chance(MIN));
    Check.refused(x, "chance(MAX)", Check.INDEX, () -> x.chance(MAX));
    unseen19();
    largeCounts19();
  }

  private static void unseen19() {
    Canticle x = withWords(2);
    x.setOrder(3);
    teach(x, 3, 0, 1);
    speak(x, 1, 1);
    // (1 1) and, behind it, nothing was seen: ADDED shares evenly, the others look at (1).
    chancesAre("ADDED, unseen", x, 333333, 333333, 333333);
    x.setWay(1, 1000);
    chancesAre("MIXED, unseen", x, 0, 0, 1000000);
    x.setWay(3, 1000);
    // (1): (2000 * UNIT + 1000 * P') / 3000, P' (2000 * UNIT + 3000 * 333333) / 9000.
    chancesAre("TAKEN, unseen", x, 111111, 111111, 777777);
    x.setWay(4, 1000);
    // Nothing: 1 of 3 by each, all of it taken: 333333; (1): 1 of 1, all of it taken.
    chancesAre("VARIED, unseen", x, 333333, 333333, 333333);
    x.setOrder(1);
    x.learn(1);
    x.setWay(4, 500);
    // Of the ORDER 1 nothing is shorter than N - 1: COUNTS are used.
    chancesAre("VARIED of the ORDER 1", x, 111111, 611111, 277777);
  }

  private static void largeCounts19() {
    Canticle x = withWords(1);
    NaiveModel y = new NaiveModel();
    y.v = 1;
    for (int i = 0; i < 12; i++) {
      x.say(0);
      y.say(0);
    }
    for (int i = 0; i < 400; i++) {
      x.learn(100);
      y.learn(100);
    }
    Check.same("c of nothing", x.ofContext(1, 0), 520000);
    for (int way = 0; way <= 4; way++) {
      x.setWay(way, 1000);
      y.setWay(way, 1000);
      Check.same("large COUNTS, way " + way, x.chance(0), y.chance(0));
      Check.same("large COUNTS, way " + way, x.chance(1), y.chance(1));
    }
  }

  private static void ranked20() {
    Canticle x = small();
    Check.same("ranked(0)", x.ranked(0), 1);
    Check.same("ranked(1)", x.ranked(1), 2);
    Check.same("ranked(2)", x.ranked(2), 0);
    Check.refused(x, "ranked(-1)", Check.INDEX, () -> x.ranked(-1));
    Check.refused(x, "ranked(3)", Check.INDEX, () -> x.ranked(3));
    Check.refused(x, "ranked(MAX)", Check.INDEX, () -> x.ranked(MAX));
    Check.refused(x, "ranked(MIN)", Check.INDEX, () -> x.ranked(MIN));
    Check.same("ranked(0) without WORDS", new Canticle().ranked(0), 0);
    Canticle even = withWords(12);
    for (int rank = 0; rank <= 12; rank++) {
      Check.same("ranked(" + rank + ") of even chances", even.ranked(rank), rank);
    }
    teach(even, 1, 7);
    even.hush();
    Check.same("ranked(0) behind 7", even.ranked(0), 7);
    Check.same("ranked(1) behind 7", even.ranked(1), 0);
    Check.same("ranked(7) behind 7", even.ranked(7), 6);
    Check.same("ranked(8) behind 7", even.ranked(8), 8);
  }

  private static void costOf21() {
    Canticle x = new Canticle();
    int[][] due = {
      {1000000, 0}, {1000001, 0}, {MAX, 0}, {999999, 0}, {750000, 512}, {500001, 1023},
      {500000, 1024}, {499999, 1024}, {250000, 2048}, {125000, 3072}, {62500, 4096},
      {31250, 5120}, {15625, 6144}, {7813, 7167}, {7812, 7168}, {3906, 8192}, {3, 18432},
      {2, 18944}, {1, 19456}, {0, 32768}, {-1, 32768}, {MIN, 32768}
    };
    for (int[] pair : due) {
      Check.same("costOf(" + pair[0] + ")", x.costOf(pair[0]), pair[1]);
    }
    for (int p = 0; p <= 1000000; p += p < 20000 ? 1 : 37) {
      Check.same("costOf(" + p + ")", x.costOf(p), NaiveModel.cost(p));
    }
  }

  private static void scoreAndMeanCost22And23() {
    Canticle x = small();
    Check.same("score() of 0", x.score(), 372 + 1954);
    Check.holds("meanCost() of 0", x.meanCost() == 1163.0);
    x.say(1);
    Check.same("score() of 0 1", x.score(), 372 + 744 + 455);
    Check.holds("meanCost() of 0 1", x.meanCost() == 1571.0 / 3);
    Check.same("score() without WORDS", new Canticle().score(), 0);
    Check.holds("meanCost() without WORDS", new Canticle().meanCost() == 0.0);
    Canticle y = withWords(1);
    y.setWay(1, 1000);
    teach(y, 1, 0);
    speak(y, 0, 0, 0);
    Check.same("score() with chances of 0", y.score(), 2 * 32768);
    Check.holds("meanCost() with chances of 0", y.meanCost() == 16384.0);
    y.hush();
    Check.same("score() of the empty SENTENCE", y.score(), 32768);
    Check.holds("meanCost() of the empty SENTENCE", y.meanCost() == 32768.0);
  }

  private static void complete24() {
    Canticle none = new Canticle();
    Check.refused(none, "complete(0) without WORDS", Check.STATE, () -> none.complete(0));
    Check.refused(none, "complete(13) without WORDS", Check.ARGUMENT, () -> none.complete(13));
    Check.refused(none, "complete(-1) without WORDS", Check.ARGUMENT, () -> none.complete(-1));
    Canticle x = small();
    Check.refused(x, "complete(0)", Check.ARGUMENT, () -> x.complete(0));
    Check.refused(x, "complete(13)", Check.ARGUMENT, () -> x.complete(13));
    Check.refused(x, "complete(MIN)", Check.ARGUMENT, () -> x.complete(MIN));
    Check.refused(x, "complete(MAX)", Check.ARGUMENT, () -> x.complete(MAX));
    Check.same("complete(1) of 0", x.complete(1), 2326);
    row("completed", x, 0);
    Check.same("complete(2) of 0", x.complete(2), 1571);
    row("completed", x, 0, 1);
    Canticle even = withWords(12);
    even.setOrder(4);
    even.say(11);
    Check.same("complete(12) of even chances", even.complete(12), 13 * new Canticle().costOf(76923));
    row("completed", even, 11, 0, 0, 0, 0, 0, 0, 0, 0, 0, 0, 0);
    Check.same("complete(12) of 12", even.complete(12), even.score());
    amongAll24();
  }

  /** Against all rows, for each ORDER and WAY. */
  private static void amongAll24() {
    int[][] rows = {{2, 1, 0}, {1, 1}, {0, 2, 2, 1}, {2}, {0, 1, 2, 0, 1}};
    for (int setting = 0; setting < 60; setting++) {
      Canticle x = withWords(3);
      NaiveModel y = new NaiveModel();
      y.v = 3;
      x.setOrder(1 + setting % 4);
      y.setOrder(1 + setting % 4);
      for (int[] row : rows) {
        teach(x, 1 + setting % 3, row);
        y.hush();
        Arrays.stream(row).forEach(y::say);
        y.learn(1 + setting % 3);
      }
      x.setWay(setting % 5, 1000 - setting);
      y.setWay(setting % 5, 1000 - setting);
      x.hush();
      y.hush();
      for (int at = 0; at < setting % 4; at++) {
        x.say(setting / 4 % 3);
        y.say(setting / 4 % 3);
      }
      int length = setting % 4 + setting % 6;
      List<Integer> best = y.bestOfAll(length);
      Check.same("complete(" + length + ")", x.complete(length), y.scoreOf(best));
      row("best of all", x, best.stream().mapToInt(i -> i).toArray());
    }
  }

  private static void setLuckAndLuck25And30() {
    Canticle x = withWords(1);
    Check.refused(x, "setLuck(-1)", Check.ARGUMENT, () -> x.setLuck(-1));
    Check.refused(x, "setLuck(10000)", Check.ARGUMENT, () -> x.setLuck(10000));
    Check.refused(x, "setLuck(MAX)", Check.ARGUMENT, () -> x.setLuck(MAX));
    Check.same("setLuck(9999)", x.setLuck(9999), 0);
    Check.same("luck()", x.luck(), 9999);
    Check.same("setLuck(0)", x.setLuck(0), 9999);
    x.setLuck(9999);
    x.addStep(0, 0);
    x.runScript();
    Check.same("luck() behind a draw", x.luck(), (9999 * 4621 + 2777) % 10000);
    Check.same("setLuck(3)", x.setLuck(3), 8156);
    Check.same("draws() stay", x.draws(), 1);
  }

  private static void addStep26() {
    Canticle x = withWords(3);
    Check.refused(x, "addStep(-1, 1)", Check.ARGUMENT, () -> x.addStep(-1, 1));
    Check.refused(x, "addStep(6, 1)", Check.ARGUMENT, () -> x.addStep(6, 1));
    int[][] wrong = {
      {2, -1}, {2, 3}, {2, MAX}, {4, -1}, {4, 4}, {4, MIN}, {3, 0}, {3, 13}, {3, MIN},
      {5, 0}, {5, 13}, {5, MAX}, {MIN, 1}, {MAX, 1}
    };
    for (int[] step : wrong) {
      Check.refused(x, "addStep(" + step[0] + ", " + step[1] + ")", Check.ARGUMENT,
          () -> x.addStep(step[0], step[1]));
    }
    Check.same("SCRIPT behind wrong STEPS", x.clearScript(), 0);
    int[][] fine = {
      {0, MIN}, {0, MAX}, {1, -7}, {2, 0}, {2, 2}, {4, 0}, {4, 2}, {4, 3}, {3, 1}, {3, 12},
      {5, 1}, {5, 12}
    };
    for (int place = 0; place < 12; place++) {
      int[] step = fine[place];
      Check.same("addStep", x.addStep(step[0], step[1]), place);
    }
    Check.refused(x, "addStep of the 13th", Check.STATE, () -> x.addStep(0, 0));
    Check.refused(x, "wrong addStep of the 13th", Check.ARGUMENT, () -> x.addStep(2, 3));
    Check.same("SCRIPT of 12", x.clearScript(), 12);
    Canticle none = new Canticle();
    Check.refused(none, "addStep(2, 0) without WORDS", Check.ARGUMENT, () -> none.addStep(2, 0));
    Check.same("addStep(4, 0) without WORDS", none.addStep(4, 0), 0);
    Check.refused(none, "addStep(4, 1) without WORDS", Check.ARGUMENT, () -> none.addStep(4, 1));
  }

  private static void clearScript27() {
    Canticle x = withWords(1);
    x.addStep(2, 0);
    x.addStep(2, 0);
    Check.same("clearScript()", x.clearScript(), 2);
    Check.same("clearScript() again", x.clearScript(), 0);
    Check.same("addStep behind clearScript()", x.addStep(2, 0), 0);
    Check.same("runScript() of the new one", x.runScript(), 1);
  }

  private static void runScript28() {
    Canticle none = new Canticle();
    none.addStep(0, 0);
    Check.refused(none, "runScript() without WORDS", Check.STATE, none::runScript);
    Canticle x = withWords(3);
    Check.refused(x, "runScript() without STEPS", Check.STATE, x::runScript);
    x.addStep(2, 2);
    x.addStep(5, 2);
    x.addStep(2, 1);
    Check.same("runScript()", x.runScript(), 4);
    row("run", x, 2, 2, 2, 1);
    Check.same("runScript() goes on", x.runScript(), 8);
    row("run", x, 2, 2, 2, 1, 2, 2, 2, 1);
    x.say(0);
    x.say(0);
    Check.same("runScript() up to 12", x.runScript(), 12);
    row("run", x, 2, 2, 2, 1, 2, 2, 2, 1, 0, 0, 2, 2);
    Check.same("runScript() of 12", x.runScript(), 12);
    Check.same("draws()", x.draws(), 0);
    x.hush();
    x.clearScript();
    int[][] steps = {{2, 0}, {5, 1}, {2, 1}, {5, 1}, {2, 2}};
    for (int[] step : steps) {
      x.addStep(step[0], step[1]);
    }
    x.runScript();
    row("each goes back for itself", x, 0, 0, 1, 0, 1, 2);
    x.hush();
    x.clearScript();
    for (int i = 0; i < 12; i++) {
      x.addStep(5, 12);
    }
    Check.same("runScript() of going back alone", x.runScript(), 0);
    Check.holds("hasEnded() of going back alone", !x.hasEnded());
  }

  private static void stepsThatTake28() {
    Canticle x = small();
    x.addStep(1, 0);
    Check.same("likeliest behind 0", x.runScript(), 2);
    row("likeliest", x, 0, 1);
    Check.same("likeliest is the END", x.runScript(), 2);
    Check.holds("hasEnded()", x.hasEnded());
    Check.same("draws() of the likeliest", x.draws(), 0);
    Check.same("luck() of the likeliest", x.luck(), 0);
    Canticle even = withWords(3);
    even.addStep(1, 99);
    even.runScript();
    row("likeliest of several", even, 0);
    // LUCK becomes 2777; all: 2777 * 1000000 / 10000 = 277700, above 250000.
    drawsOne(withWords(3), 0, 0, 0, 2777, 1);
    // Two likeliest: 138850, within 250000. But one: below it too.
    drawsOne(withWords(3), 0, 3, 2, 2777, 0);
    drawsOne(withWords(3), 0, 3, 1, 2777, 0);
    // LUCK 1 becomes 7398: of two 369900, of three 554850, of twelve (all) 739800.
    drawsOne(withWords(3), 1, 3, 2, 7398, 1);
    drawsOne(withWords(3), 1, 3, 3, 7398, 2);
    drawsOne(withWords(3), 1, 3, 12, 7398, 2);
    drawsOne(withWords(3), 1, 3, 4, 7398, 2);
    // All but one: 554850 of 750000.
    drawsOne(withWords(3), 1, 4, 0, 7398, 3);
    drawsOne(withWords(3), 1, 4, 1, 7398, 3);
    drawsOne(withWords(3), 1, 4, 3, 7398, 2);
    drawsOne(withWords(3), 0, 4, 0, 2777, 1);
    // What is drawn must be below the sum so far: 250000 is not, 249900 is.
    drawsOne(withWords(3), 6663, 0, 0, 2500, 1);
    drawsOne(withWords(3), 4882, 0, 0, 2499, 0);
    drawsOne(withWords(3), 2382, 0, 0, 9999, 3);
  }

  /** Draws by one STEP; due is the one that is taken, V for the END. */
  private static void drawsOne(Canticle x, int luck, int code, int a, int luckBehind, int due) {
    String what = "STEP " + code + " " + a + " by LUCK " + luck;
    x.setLuck(luck);
    x.addStep(code, a);
    boolean end = due == x.words();
    int before = x.draws();
    Check.same(what, x.runScript(), end ? 0 : 1);
    Check.holds(what + " hasEnded()", x.hasEnded() == end);
    if (!end) {
      row(what, x, due);
    }
    Check.same(what + " luck()", x.luck(), luckBehind);
    Check.same(what + " draws()", x.draws(), before + 1);
  }

  private static void drawsOfNothing28() {
    Canticle x = withWords(3);
    x.setWay(1, 1000);
    teach(x, 1, 0);
    x.hush();
    chancesAre("only 0 is seen", x, 1000000, 0, 0, 0);
    drawsOne(x, 1, 4, 0, 7398, 1);
    Canticle y = withWords(1);
    y.setWay(1, 1000);
    teach(y, 1, 0);
    y.hush();
    drawsOne(y, 1, 4, 0, 7398, 1);
    // 0 is drawn, which is not below the chances of 0 ahead of 2.
    Canticle z = withWords(3);
    z.setWay(1, 1000);
    teach(z, 1, 2);
    z.hush();
    drawsOne(z, 4163, 0, 0, 0, 2);
  }

  private static void numbersStay28() {
    Canticle x = withWords(1);
    x.addStep(4, 1);
    x.addWord();
    x.setLuck(1);
    // Now 1 is a WORD: 0 and the END are left, 333333 each; 7398 * 666666 / 10000 is 493199.
    Check.same("runScript()", x.runScript(), 0);
    Check.holds("the END was taken", x.hasEnded());
    Check.same("luck()", x.luck(), 7398);
  }

  private static void hasEnded29() {
    Canticle x = withWords(1);
    teach(x, 5, 0);
    Check.holds("hasEnded() ahead of a run", !x.hasEnded());
    x.addStep(1, 0);
    x.runScript();
    Check.holds("hasEnded() behind the END", x.hasEnded());
    x.hush();
    Check.holds("hasEnded() behind hush()", x.hasEnded());
    x.clearScript();
    Check.throwing("runScript()", Check.STATE, x::runScript);
    Check.holds("hasEnded() behind a refused run", x.hasEnded());
    x.addStep(2, 0);
    x.runScript();
    Check.holds("hasEnded() behind another run", !x.hasEnded());
    x.clearScript();
    x.addStep(1, 0);
    x.addStep(2, 0);
    x.runScript();
    Check.holds("hasEnded() again", x.hasEnded());
    row("no STEP behind the END", x, 0);
    for (int i = 1; i < 12; i++) {
      x.say(0);
    }
    x.runScript();
    Check.holds("hasEnded() behind a run from 12 WORDS", !x.hasEnded());
    x.hush();
    for (int i = 0; i < 11; i++) {
      x.say(0);
    }
    x.clearScript();
    x.addStep(2, 0);
    x.addStep(1, 0);
    x.runScript();
    Check.holds("hasEnded() where the SENTENCE is full first", !x.hasEnded());
  }

  private static void draws31() {
    Canticle x = withWords(12);
    x.setWay(1, 1);
    for (int code = 0; code <= 4; code++) {
      x.addStep(code, 1);
    }
    x.runScript();
    int most = x.draws();
    Check.holds("draws() of one run", most >= 1 && most <= 3);
    x.wouldDraw();
    Check.same("draws() behind wouldDraw()", x.draws(), most);
    x.clearScript();
    x.hush();
    x.addStep(3, 1);
    x.addStep(5, 12);
    x.runScript();
    Check.same("draws() of 12 WORDS", x.draws(), most + 12);
  }

  private static void scoreLearned32() {
    Canticle none = new Canticle();
    Check.refused(none, "scoreLearned(1) without WORDS", Check.STATE, () -> none.scoreLearned(1));
    Check.refused(none, "scoreLearned(0) without WORDS", Check.ARGUMENT,
        () -> none.scoreLearned(0));
    Canticle x = small();
    Check.refused(x, "scoreLearned(0)", Check.ARGUMENT, () -> x.scoreLearned(0));
    Check.refused(x, "scoreLearned(101)", Check.ARGUMENT, () -> x.scoreLearned(101));
    Check.refused(x, "scoreLearned(MIN)", Check.ARGUMENT, () -> x.scoreLearned(MIN));
    for (int way = 0; way <= 4; way++) {
      for (int times = 1; times <= 100; times += 33) {
        x.setWay(way, 700);
        speak(x, 1, 0, 0, 1);
        long before = x.digest();
        int would = x.scoreLearned(times);
        Check.same("digest() behind scoreLearned()", x.digest(), before);
        x.learn(times);
        Check.same("score() behind learn()", x.score(), would);
      }
    }
    Canticle y = small();
    y.prune(2, 4);
    long before = y.digest();
    y.scoreLearned(100);
    Check.same("digest() behind scoreLearned() of a pruned one", y.digest(), before);
  }

  private static void scoreBy33() {
    Canticle x = small();
    Check.refused(x, "scoreBy(-1, 1)", Check.ARGUMENT, () -> x.scoreBy(-1, 1));
    Check.refused(x, "scoreBy(5, 1)", Check.ARGUMENT, () -> x.scoreBy(5, 1));
    Check.refused(x, "scoreBy(0, 0)", Check.ARGUMENT, () -> x.scoreBy(0, 0));
    Check.refused(x, "scoreBy(0, 1001)", Check.ARGUMENT, () -> x.scoreBy(0, 1001));
    Check.refused(x, "scoreBy(MAX, MIN)", Check.ARGUMENT, () -> x.scoreBy(MAX, MIN));
    for (int way = 0; way <= 4; way++) {
      for (int number = 1; number <= 1000; number += 333) {
        x.setWay(2, 5);
        long before = x.digest();
        int would = x.scoreBy(way, number);
        Check.same("digest() behind scoreBy()", x.digest(), before);
        Check.same("WAY behind scoreBy()", x.setWay(way, number), 2);
        Check.same("score() by that", x.score(), would);
      }
    }
    x.setWay(0, 700);
    int score = x.score();
    x.scoreBy(0, 3);
    Check.same("NUMBER behind scoreBy()", x.score(), score);
    Check.same("scoreBy() without WORDS", new Canticle().scoreBy(3, 3), 0);
  }

  private static void wouldDraw34() {
    Canticle none = new Canticle();
    Check.refused(none, "wouldDraw() without WORDS", Check.STATE, none::wouldDraw);
    Canticle x = small();
    for (int luck = 0; luck < 10000; luck += 173) {
      x.setLuck(luck);
      long before = x.digest();
      int next = (luck * 4621 + 2777) % 10000;
      // Behind 0 the chances are 90909, 636363, 272727, in all 999999.
      long drawn = next * 999999L / 10000;
      int due = drawn < 90909 ? 0 : drawn < 727272 ? 1 : 2;
      Check.same("wouldDraw() by LUCK " + luck, x.wouldDraw(), due);
      Check.same("digest() behind wouldDraw()", x.digest(), before);
    }
    x.addStep(0, 0);
    for (int luck = 0; luck < 10000; luck += 391) {
      speak(x, 0);
      x.setLuck(luck);
      int would = x.wouldDraw();
      x.runScript();
      Check.same("what is drawn", x.hasEnded() ? 2 : x.wordAt(1), would);
    }
    speak(x, 0, 0, 0, 0, 0, 0, 0, 0, 0, 0, 0, 0);
    x.setLuck(1);
    Check.same("wouldDraw() behind 12 WORDS", x.wouldDraw(), 2);
    Check.same("length() behind it", x.length(), 12);
  }

  /** Each LUCK there is, against the sums of what chance() answers. */
  private static void eachLuck34() {
    for (int number = 1; number <= 1000; number += 37) {
      Canticle x = null;
      long[] sums = new long[3];
      for (int luck = 0; luck < 10000; luck++) {
        if (luck % 200 == 0) {
          x = small();
          x.setWay(luck / 200 % 5, number);
          sums[0] = x.chance(0);
          sums[1] = sums[0] + x.chance(1);
          sums[2] = sums[1] + x.chance(2);
        }
        x.setLuck(luck);
        long drawn = (luck * 4621 + 2777) % 10000 * sums[2] / 10000;
        Check.same("wouldDraw() by LUCK " + luck, x.wouldDraw(),
            drawn < sums[0] ? 0 : drawn < sums[1] ? 1 : 2);
      }
    }
  }

  /** Sums of 999999 draw one less than 1000000 would, which tells where a chance is whole hundreds. */
  private static void sumsAreExact34() {
    int found = 0;
    for (int number = 1; number <= 1000; number++) {
      Canticle x = small();
      for (int way = 0; way <= 4; way++) {
        x.setWay(way, number);
        int first = x.chance(0);
        if (first % 100 > 0 || first == 0 || first + x.chance(1) + x.chance(2) != 999999) {
          continue;
        }
        found++;
        x.setLuck(luckAhead(first / 100));
        Check.same("wouldDraw() of way " + way + ", " + number, x.wouldDraw(), 0);
        x.setLuck(luckAhead(first / 100 + 1));
        Check.same("wouldDraw() of way " + way + ", " + number, x.wouldDraw(), 1);
      }
    }
    Check.holds("such chances were found", found > 0);
  }

  private static int luckAhead(int luck) {
    for (int before = 0; before < 10000; before++) {
      if ((before * 4621 + 2777) % 10000 == luck) {
        return before;
      }
    }
    return 0;
  }

  private static void digest35() {
    Check.same("digest() of a new one", new Canticle().digest(), digestOf(new Canticle()));
    Canticle x = small();
    Check.same("digest()", x.digest(), digestOf(x));
    x.setOrder(4);
    teach(x, 2, 0, 1, 1, 0);
    x.setWay(4, 123);
    x.addStep(0, 0);
    x.addStep(5, 9);
    x.setLuck(77);
    for (int i = 0; i < 20; i++) {
      x.hush();
      x.runScript();
      Check.same("digest() behind a run", x.digest(), digestOf(x));
    }
  }

  /** The checksum from what the other calls answer. */
  private static long digestOf(Canticle x) {
    long d = 58041;
    d = d * 31 + x.words();
    d = d * 31 + x.order();
    d = d * 31 + x.length();
    for (int at = 0; at < x.length(); at++) {
      d = d * 31 + x.wordAt(at);
    }
    for (int n = 1; n <= x.order(); n++) {
      d = d * 31 + x.entries(n);
      for (int e = 0; e < x.entries(n); e++) {
        for (int at = 0; at < n; at++) {
          d = d * 31 + x.entryAt(n, e, at);
        }
        d = d * 31 + x.countOf(n, e);
      }
    }
    for (int n = 1; n <= x.order(); n++) {
      d = d * 31 + x.ofContext(n, 0);
      d = d * 31 + x.ofContext(n, 1);
    }
    for (int w = 0; w <= x.words(); w++) {
      d = d * 31 + x.chance(w);
    }
    for (int rank = 0; rank <= x.words(); rank++) {
      d = d * 31 + x.ranked(rank);
    }
    d = d * 31 + x.score();
    d = d * 31 + x.luck();
    d = d * 31 + x.draws();
    return d * 31 + (x.hasEnded() ? 1 : 0);
  }

  public static void main(String[] args) {
    newObject1();
    addWord2();
    setOrder3();
    say4();
    hush5();
    learn6();
    learnUpToTheLimit6();
    unlearn7();
    plainOnes8To11();
    entries12();
    entryAtAndCountOf13And14();
    ofContext15();
    prune16();
    pruneBy17();
    setWay18();
    chance19();
    ranked20();
    costOf21();
    scoreAndMeanCost22And23();
    complete24();
    setLuckAndLuck25And30();
    addStep26();
    clearScript27();
    runScript28();
    stepsThatTake28();
    drawsOfNothing28();
    numbersStay28();
    hasEnded29();
    draws31();
    scoreLearned32();
    scoreBy33();
    wouldDraw34();
    eachLuck34();
    sumsAreExact34();
    digest35();
    Check.end("PromiseTest");
  }
}
