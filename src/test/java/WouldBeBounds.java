import java.math.BigInteger;

/** Bounds of what would be, and of all calls: promises 32 to 35, exceptions, the 512th call. */
final class WouldBeBounds extends Boundaries {
  private static final String TERMS = "Terms";

  private WouldBeBounds() {}

  static void all() {
    allCalls();
    promises32To35();
  }

  private static void allCalls() {
    sentence("What it is", "An object is used for at most 512 calls after it has been made; what"
        + " later calls answer is free.", WouldBeBounds::the512thCall);
    sentence(TERMS, "A method that throws an exception changes nothing.",
        WouldBeBounds::throwingChangesNothing);
    sentence(TERMS, "If several exceptions apply, the one that is named first is thrown.",
        WouldBeBounds::firstNamed);
    sentence(TERMS, "---- what would be (nothing is changed).", WouldBeBounds::nothingIsChanged);
  }

  private static void promises32To35() {
    String scoreLearned = "Promise 32: scoreLearned";
    sentence(scoreLearned, "Returns the SCORE that the SENTENCE would have, if it was learned so"
        + " many times (also with more than 800 ENTRIES).", WouldBeBounds::learnedAbove800);
    sentence(scoreLearned, "Throws `IllegalArgumentException` if times is not 1 to 100",
        WouldBeBounds::timesThatWouldBe);
    sentence(scoreLearned, "Throws `IllegalStateException` if there is no WORD",
        WouldBeBounds::noWordToLearn);
    String scoreBy = "Promise 33: scoreBy";
    sentence(scoreBy, "Returns the SCORE that the SENTENCE would have with them.",
        WouldBeBounds::scoredByOthers);
    sentence(scoreBy, "Throws `IllegalArgumentException` if way is not 0 to 4, or number is not 1"
        + " to 1000", WouldBeBounds::noSuchWay);
    String wouldDraw = "Promise 34: wouldDraw";
    sentence(wouldDraw, "Returns the WORD, or V, that one would take now, if one of all was drawn"
        + " behind the SENTENCE, however long that is.", WouldBeBounds::drawnHoweverLong);
    sentence(wouldDraw, "Throws `IllegalStateException` if there is no WORD",
        WouldBeBounds::noWordToDraw);
    String digest = "Promise 35: digest";
    sentence(digest, "which wraps around as a 64-bit integer", WouldBeBounds::digestWraps);
    sentence(digest, "(whether something is so counts 1 or 0)", WouldBeBounds::soCounts1);
    sentence(digest, "words(), order(), length(), each wordAt(); for each order from 1 on"
        + " entries(), and for each ENTRY each entryAt(), and countOf();",
        WouldBeBounds::digestOfNoneAndOfMany);
  }

  // ---- all calls

  /** 511 calls, of which 496 have learned 12 times the WORD 0 for 100 times each. */
  private static Canticle with511Calls(int order, int way) {
    Canticle x = new Canticle();
    x.addWord();
    x.setOrder(order);
    x.setWay(way, 1000);
    for (int i = 0; i < 12; i++) {
      x.say(0);
    }
    for (int i = 0; i < 496; i++) {
      x.learn(100);
    }
    return x;
  }

  private static void the512thCall() {
    Check.same("countOf(1, 0)", with511Calls(1, 0).countOf(1, 0), 595200);
    Check.same("ofContext(1, 0)", with511Calls(1, 0).ofContext(1, 0), 644800);
    Check.same("learn(100)", with511Calls(4, 0).learn(100), 14);
    Check.same("score() of the ORDER 1", with511Calls(1, 0).score(), 5743);
    Check.same("scoreBy(4, 1000)", with511Calls(4, 0).scoreBy(4, 1000), 5317);
    int[][] due = {
      {923075, 76924}, {923076, 76923}, {923075, 76924}, {923076, 76923}, {923076, 76923}
    };
    int[][] dueOf4 = {
      {899998, 100001}, {900000, 100000}, {900000, 99999}, {900001, 99998}, {900001, 99998}
    };
    for (int way = 0; way <= 4; way++) {
      for (int w = 0; w <= 1; w++) {
        Check.same("chance(" + w + "), way " + way, with511Calls(1, way).chance(w), due[way][w]);
        Check.same("chance(" + w + ") of the ORDER 4, way " + way,
            with511Calls(4, way).chance(w), dueOf4[way][w]);
      }
    }
    Canticle x = new Canticle();
    for (int call = 1; call < 512; call++) {
      Check.same("hush() of the call " + call, x.hush(), 0);
    }
    Check.same("addWord() as the 512th call", x.addWord(), 0);
  }

  private static Canticle fullWith(int... words) {
    Canticle x = full();
    speak(x, words);
    return x;
  }

  private static void throwingChangesNothing() {
    Canticle seen = rich(3);
    Check.holds("the model to look at has ended", seen.hasEnded());
    Check.same("the model to look at has drawn", seen.draws(), 1);
    refused(() -> rich(12), "addWord()", Check.STATE, Canticle::addWord);
    refused(() -> rich(3), "setOrder(5)", Check.ARGUMENT, x -> x.setOrder(5));
    refused(() -> rich(3), "say(3)", Check.INDEX, x -> x.say(3));
    refused(() -> rich(3), "learn(101)", Check.ARGUMENT, x -> x.learn(101));
    refused(() -> fullWith(1, 4), "learn(1)", Check.STATE, x -> x.learn(1));
    refused(() -> fullWith(11, 11, 11, 11), "unlearn()", Check.STATE, Canticle::unlearn);
    refused(() -> rich(3), "wordAt(2)", Check.INDEX, x -> x.wordAt(2));
    refused(() -> rich(3), "entries(4)", Check.ARGUMENT, x -> x.entries(4));
    refused(() -> rich(3), "entryAt(1, 0, 1)", Check.INDEX, x -> x.entryAt(1, 0, 1));
    refused(() -> rich(3), "countOf(1, 99)", Check.INDEX, x -> x.countOf(1, 99));
    refused(() -> rich(3), "ofContext(4, 0)", Check.ARGUMENT, x -> x.ofContext(4, 0));
    refused(() -> rich(3), "prune(1, 1000)", Check.ARGUMENT, x -> x.prune(1, 1000));
    refused(() -> rich(3), "pruneBy(1, UNIT)", Check.ARGUMENT, x -> x.pruneBy(1, UNIT));
    refused(() -> rich(3), "setWay(0, 1001)", Check.ARGUMENT, x -> x.setWay(0, 1001));
    refused(() -> rich(3), "chance(4)", Check.INDEX, x -> x.chance(4));
    refused(() -> rich(3), "ranked(4)", Check.INDEX, x -> x.ranked(4));
    refused(() -> rich(3), "complete(13)", Check.ARGUMENT, x -> x.complete(13));
    refused(() -> rich(3), "setLuck(10000)", Check.ARGUMENT, x -> x.setLuck(10000));
    refused(() -> rich(3), "addStep(2, 3)", Check.ARGUMENT, x -> x.addStep(2, 3));
    refused(() -> withWords(1), "runScript()", Check.STATE, Canticle::runScript);
    refused(() -> rich(3), "scoreLearned(101)", Check.ARGUMENT, x -> x.scoreLearned(101));
    refused(() -> rich(3), "scoreBy(5, 1)", Check.ARGUMENT, x -> x.scoreBy(5, 1));
    refused(Canticle::new, "wouldDraw()", Check.STATE, Canticle::wouldDraw);
  }

  private static Canticle with12Steps() {
    Canticle x = withWords(2);
    for (int place = 0; place < 12; place++) {
      x.addStep(1, 0);
    }
    return x;
  }

  private static void firstNamed() {
    Canticle twelve = withWords(1);
    speakZeros(twelve, 12);
    Check.throwing("say(1), no WORD, behind 12", Check.INDEX, () -> twelve.say(1));
    Canticle none = new Canticle();
    Check.throwing("learn(0) without WORDS", Check.ARGUMENT, () -> none.learn(0));
    Check.throwing("learn(101) without WORDS", Check.ARGUMENT, () -> none.learn(101));
    Canticle more = fullWith(1, 4);
    Check.throwing("learn(0) at 800", Check.ARGUMENT, () -> more.learn(0));
    Check.throwing("learn(101) at 800", Check.ARGUMENT, () -> more.learn(101));
    Check.throwing("entryAt(0, 0, 0) of none", Check.ARGUMENT, () -> none.entryAt(0, 0, 0));
    Check.throwing("entryAt(3, -1, -1)", Check.ARGUMENT, () -> none.entryAt(3, -1, -1));
    Check.throwing("countOf(0, 0) of none", Check.ARGUMENT, () -> none.countOf(0, 0));
    Check.throwing("countOf(3, -1)", Check.ARGUMENT, () -> none.countOf(3, -1));
    Check.throwing("complete(13) without WORDS", Check.ARGUMENT, () -> none.complete(13));
    Check.throwing("complete(-1) without WORDS", Check.ARGUMENT, () -> none.complete(-1));
    int[][] wrong = {{6, 0}, {-1, 0}, {2, 2}, {4, 3}, {3, 13}, {5, 0}};
    Canticle steps = with12Steps();
    for (int[] step : wrong) {
      Check.throwing("addStep(" + step[0] + ", " + step[1] + ") of the 13th", Check.ARGUMENT,
          () -> steps.addStep(step[0], step[1]));
    }
    Check.throwing("scoreLearned(0) without WORDS", Check.ARGUMENT, () -> none.scoreLearned(0));
    Check.throwing("scoreLearned(101) without WORDS", Check.ARGUMENT,
        () -> none.scoreLearned(101));
  }

  private static void nothingIsChanged() {
    int learned = rich(3).scoreLearned(100);
    answered(() -> rich(3), "scoreLearned(100)", learned, x -> x.scoreLearned(100));
    int scored = rich(3).scoreBy(1, 77);
    answered(() -> rich(3), "scoreBy(1, 77)", scored, x -> x.scoreBy(1, 77));
    int drawn = rich(3).wouldDraw();
    answered(() -> rich(3), "wouldDraw()", drawn, Canticle::wouldDraw);
    long digest = rich(3).digest();
    answered(() -> rich(3), "digest()", digest, Canticle::digest);
    answered(Canticle::new, "scoreBy(4, 1) without WORDS", 0, x -> x.scoreBy(4, 1));
  }

  // ---- promises 32 to 35

  private static void learnedAbove800() {
    // Of the ways 0 and 4 with the NUMBER 300, learned once and 100 times: 801 and 827 ENTRIES.
    answered(() -> fullBy(0, 1, 4), "scoreLearned(1), 801", 7650, x -> x.scoreLearned(1));
    answered(() -> fullBy(0, 1, 4), "scoreLearned(100), 801", 683, x -> x.scoreLearned(100));
    answered(() -> fullBy(4, 1, 4), "scoreLearned(1), 801", 5323, x -> x.scoreLearned(1));
    answered(() -> fullBy(4, 1, 4), "scoreLearned(100), 801", 505, x -> x.scoreLearned(100));
    int[] twelve = {0, 0, 1, 1, 3, 3, 4, 4, 6, 6, 8, 8};
    answered(() -> fullBy(0, twelve), "scoreLearned(1), 827", 27653, x -> x.scoreLearned(1));
    answered(() -> fullBy(4, twelve), "scoreLearned(100), 827", 542, x -> x.scoreLearned(100));
    Check.same("entries stay 800", entriesInAll(fullBy(4, twelve)), 800);
    Canticle empty = withWords(1);
    empty.setWay(2, 700);
    Check.same("scoreLearned(1) of the empty SENTENCE", empty.scoreLearned(1), 256);
  }

  private static Canticle fullBy(int way, int... words) {
    Canticle x = fullWith(words);
    x.setWay(way, 300);
    return x;
  }

  private static void timesThatWouldBe() {
    for (int times : of(0, 101, -1, MIN, MAX)) {
      refused(() -> rich(3), "scoreLearned(" + times + ")", Check.ARGUMENT,
          x -> x.scoreLearned(times));
    }
    int[][] due = {{5578, 273}, {5631, 1365}, {5632, 270}, {7003, 210}, {6988, 210}};
    for (int way = 0; way <= 4; way++) {
      Canticle x = small();
      x.setWay(way, 700);
      speak(x, 1, 0);
      Check.same("scoreLearned(1), way " + way, x.scoreLearned(1), due[way][0]);
      Check.same("scoreLearned(100), way " + way, x.scoreLearned(100), due[way][1]);
    }
  }

  private static void noWordToLearn() {
    refused(Canticle::new, "scoreLearned(1)", Check.STATE, x -> x.scoreLearned(1));
    refused(Canticle::new, "scoreLearned(100)", Check.STATE, x -> x.scoreLearned(100));
    // 750000 of the END behind BEGIN, by ADDED.
    Check.same("scoreLearned(1) with one WORD", withWords(1).scoreLearned(1), 512);
  }

  private static void scoredByOthers() {
    int[][] due = {{2048, 2486}, {3409, 2048}, {2164, 2164}, {2048, 2931}, {2048, 2432}};
    for (int way = 0; way <= 4; way++) {
      int other = way;
      answered(Scenes::small, "scoreBy(" + way + ", 1)", due[way][0], x -> x.scoreBy(other, 1));
      answered(Scenes::small, "scoreBy(" + way + ", 1000)", due[way][1],
          x -> x.scoreBy(other, 1000));
      answered(Canticle::new, "scoreBy(" + way + ", 1) without WORDS", 0, x -> x.scoreBy(other, 1));
    }
    Canticle x = sure(1);
    Check.same("scoreBy(0, 1) of the empty SENTENCE", x.scoreBy(0, 1), 10216);
    speakZeros(x, 12);
    Check.same("scoreBy(0, 1) of 12 WORDS", x.scoreBy(0, 1), 112380);
  }

  private static void noSuchWay() {
    for (int way : of(-1, 5, MIN, MAX)) {
      refused(() -> rich(3), "scoreBy(" + way + ", 1)", Check.ARGUMENT, x -> x.scoreBy(way, 1));
    }
    for (int number : of(0, 1001, -1, MIN, MAX)) {
      refused(() -> rich(3), "scoreBy(1, " + number + ")", Check.ARGUMENT,
          x -> x.scoreBy(1, number));
    }
    Check.same("scoreBy(0, 1)", small().scoreBy(0, 1), 2048);
    Check.same("scoreBy(4, 1000)", small().scoreBy(4, 1000), 2432);
  }

  private static void drawnHoweverLong() {
    for (int size = 0; size <= 12; size++) {
      // LUCK 0 becomes 2777: 277700 of 250000 each.
      Canticle x = withWords(3);
      speakZeros(x, size);
      Check.same("wouldDraw() behind " + size, x.wouldDraw(), 1);
      Check.same("length() behind it", x.length(), size);
      Check.same("luck() behind it", x.luck(), 0);
      Check.same("draws() behind it", x.draws(), 0);
      // 2382 becomes 9999.
      x.setLuck(2382);
      Check.same("wouldDraw() of the END behind " + size, x.wouldDraw(), 3);
    }
  }

  private static void noWordToDraw() {
    refused(Canticle::new, "wouldDraw()", Check.STATE, Canticle::wouldDraw);
    Check.same("wouldDraw() with one WORD", withWords(1).wouldDraw(), 0);
  }

  /** The checksum of these numbers, without a bound, and only then cut to 64 bits. */
  private static long checksum(int... numbers) {
    BigInteger d = BigInteger.valueOf(58041);
    for (int x : numbers) {
      d = d.multiply(BigInteger.valueOf(31)).add(BigInteger.valueOf(x));
    }
    return d.longValue();
  }

  private static void digestWraps() {
    long due = checksum(2, 2, 1, 0, 3, 0, 4, 1, 3, 2, 4, 4, -1, 0, 4, 0, 1, 3, 0, 2, 1, 1, 2, 3, 11,
        3, 4, 2, 90909, 636363, 272727, 1, 2, 0, 2326, 0, 0, 0);
    Check.same("digest()", small().digest(), due);
    long full = 0;
    for (int luck = 0; luck < 30; luck++) {
      Canticle x = small();
      x.setLuck(luck);
      // The LUCK is followed by two numbers.
      Check.same("digest() by LUCK " + luck, x.digest(), due + luck * 961L);
      full |= x.digest();
    }
    Check.holds("digests below 0 are among them", full < 0);
  }

  private static void soCounts1() {
    Canticle x = small();
    speak(x, 0, 1);
    long before = x.digest();
    x.addStep(1, 0);
    x.runScript();
    Check.holds("the END was taken", x.hasEnded());
    Check.same("digest() with hasEnded()", x.digest(), before + 1);
    x.clearScript();
    x.addStep(5, 1);
    x.runScript();
    Check.same("digest() without hasEnded()", x.digest(), before);
  }

  private static void digestOfNoneAndOfMany() {
    Check.same("of a new one", new Canticle().digest(),
        checksum(0, 2, 0, 0, 0, 0, 0, 0, 0, 1000000, 0, 0, 0, 0, 0));
    Check.same("of a new one, as a number", new Canticle().digest(), 3013577737360370981L);
    Check.same("of the ORDER 1", withOrder(0, 1).digest(),
        checksum(0, 1, 0, 0, 0, 0, 1000000, 0, 0, 0, 0, 0));
    Check.same("of the ORDER 4, with 1 WORD", withOrder(1, 4).digest(),
        checksum(1, 4, 0, 0, 0, 0, 0, 0, 0, 0, 0, 0, 0, 0, 0, 500000, 500000, 0, 1, 1024, 0, 0, 0));
    Canticle x = withOrder(1, 1);
    speakZeros(x, 12);
    Check.same("of 12 WORDS", x.digest(), checksum(1, 1, 12, 0, 0, 0, 0, 0, 0, 0, 0, 0, 0, 0, 0, 0,
        0, 0, 500000, 500000, 0, 1, 13312, 0, 0, 0));
  }
}
