/** Bounds of LUCK, draws and the SCRIPT: the fourth head of the terms, promises 25 to 31. */
final class ScriptBounds extends Boundaries {
  private static final String TERMS = "Terms";

  private ScriptBounds() {}

  static void all() {
    termsOfDraws();
    termsOfSteps();
    promises25To27();
    promises28To31();
  }

  private static void termsOfDraws() {
    sentence(TERMS, "LUCK is 0 to 9999 (0, at first).", ScriptBounds::luckAtFirst);
    sentence(TERMS, "To draw below n is to make it (LUCK * 4621 + 2777) % 10000, then to take (LUCK"
        + " * n) / 10000.", ScriptBounds::luckWraps);
    sentence(TERMS, "to take the first one, by their numbers (the END last), with which the sum of"
        + " chances so far is above what was drawn", ScriptBounds::sumsAboveWhatWasDrawn);
    sentence(TERMS, "if that sum is 0, one draws all the same (LUCK goes on, draws() counts it),"
        + " and the first one is taken.", ScriptBounds::sumOf0);
  }

  private static void termsOfSteps() {
    sentence(TERMS, "The SCRIPT is a row of at most 12 STEPS, each with a code and a number a:",
        ScriptBounds::stepsUpTo12);
    sentence(TERMS, "0, one of all is drawn;", ScriptBounds::drawnOfAll);
    sentence(TERMS, "1, the likeliest one is taken, of several the smallest;",
        ScriptBounds::likeliestOfSeveral);
    sentence(TERMS, "2, the WORD a is taken;", ScriptBounds::wordIsTaken);
    sentence(TERMS, "3, one of the a likeliest is drawn", ScriptBounds::oneOrTwoLikeliest);
    sentence(TERMS, "(of several as likely the smaller ones count as likelier;",
        ScriptBounds::smallerCountAsLikelier);
    sentence(TERMS, "of all, if there are no more)", ScriptBounds::likeliestOfAll);
    sentence(TERMS, "4, one of all but a is drawn", ScriptBounds::allButOne);
    sentence(TERMS, "(a stays the number that was told, also when WORDS are added)",
        ScriptBounds::numberStays);
    sentence(TERMS, "5, the steps go on from the first STEP again, the first a times that one comes"
        + " to it in a run; later it is passed.", ScriptBounds::goingBack);
    sentence(TERMS, "Chances are those behind the SENTENCE as it is then; what a STEP of 0 to 4"
        + " takes comes to the end of the SENTENCE;", ScriptBounds::behindTheSentenceThen);
    sentence(TERMS, "as soon as it is the END (which does not come to the SENTENCE)",
        ScriptBounds::endsAtTheEnd);
    sentence(TERMS, "or the SENTENCE has 12 WORDS (also at the beginning)",
        ScriptBounds::endsAt12Words);
    sentence(TERMS, "or there is no STEP any more, the script ends.",
        ScriptBounds::endsBehindSteps);
  }

  private static void promises25To27() {
    String setLuck = "Promise 25: setLuck";
    sentence(setLuck, "Returns the LUCK before.", ScriptBounds::luckBefore);
    sentence(setLuck, "Throws `IllegalArgumentException` if luck is not 0 to 9999",
        ScriptBounds::noSuchLuck);
    String addStep = "Promise 26: addStep";
    sentence(addStep, "its number (with 0 and 1 it is not looked at)",
        ScriptBounds::numbersNotLookedAt);
    sentence(addStep, "Returns its place, from 0.", ScriptBounds::placesOfSteps);
    sentence(addStep, "Throws `IllegalArgumentException` if code is not 0 to 5; with 2 and 4, if a"
        + " is no WORD, nor, with 4, V; with 3 and 5, if a is not 1 to 12",
        ScriptBounds::noSuchStep);
    sentence(addStep, "Throws `IllegalStateException` if there are 12", ScriptBounds::step13);
    sentence("Promise 27: clearScript", "Returns how many STEPS the SCRIPT had; it is empty then.",
        ScriptBounds::had0To12Steps);
  }

  private static void promises28To31() {
    String runScript = "Promise 28: runScript";
    sentence(runScript, "Runs the SCRIPT, from the SENTENCE as it is.", ScriptBounds::fromAsItIs);
    sentence(runScript, "Returns how many WORDS the SENTENCE has then.",
        ScriptBounds::wordsBehindARun);
    sentence(runScript, "Throws `IllegalStateException` if there is no WORD, or no STEP",
        ScriptBounds::nothingToRun);
    sentence("Promise 29: hasEnded", "Returns whether the END was taken by the latest run; no,"
        + " ahead of the first one.", ScriptBounds::endedByTheLatest);
    sentence("Promise 30: luck", "Returns the LUCK.", ScriptBounds::luck0To9999);
    sentence("Promise 31: draws", "Returns how many draws were made in all.",
        ScriptBounds::drawsInAll);
  }

  // ---- draws

  /** The LUCK that the next draw makes this one. */
  private static int luckAhead(int due) {
    int found = -1;
    for (int luck = 0; luck < 10000; luck++) {
      found = (luck * 4621 + 2777) % 10000 == due ? luck : found;
    }
    return found;
  }

  /** What one STEP takes when the draw makes the LUCK this one; V for the END. */
  private static int takenBy(Canticle x, int code, int a, int luck) {
    x.clearScript();
    x.addStep(code, a);
    x.setLuck(luckAhead(luck));
    int before = x.length();
    int draws = x.draws();
    int after = x.runScript();
    boolean drawing = code == 0 || code >= 3;
    Check.same("luck() behind the STEP", x.luck(), drawing ? luck : luckAhead(luck));
    Check.same("draws() behind the STEP", x.draws(), draws + (drawing ? 1 : 0));
    Check.same("length() behind the STEP", after, x.hasEnded() ? before : before + 1);
    return x.hasEnded() ? x.words() : x.wordAt(before);
  }

  private static void takes(String what, Canticle x, int code, int a, int luck, int due) {
    String step = what + ", STEP " + code + " " + a + ", LUCK " + luck;
    Check.same(step, takenBy(x, code, a, luck), due);
  }

  private static void luckAtFirst() {
    Canticle x = new Canticle();
    Check.same("luck() at first", x.luck(), 0);
    Check.same("setLuck(9999)", x.setLuck(9999), 0);
    Check.same("luck()", x.luck(), 9999);
    Check.same("setLuck(0)", x.setLuck(0), 9999);
    Check.throwing("setLuck(10000)", Check.ARGUMENT, () -> x.setLuck(10000));
    Check.throwing("setLuck(-1)", Check.ARGUMENT, () -> x.setLuck(-1));
    Check.same("luck() behind that", x.luck(), 0);
  }

  private static void luckWraps() {
    int[][] due = {{0, 2777}, {1, 7398}, {2777, 5294}, {9999, 8156}, {4163, 0}, {2382, 9999}};
    for (int[] pair : due) {
      Canticle x = withWords(3);
      x.addStep(0, 0);
      x.setLuck(pair[0]);
      x.runScript();
      Check.same("luck() behind " + pair[0], x.luck(), pair[1]);
    }
    // 9999 * UNIT is more than an int holds: 999900 are drawn.
    takes("the last one", withWords(3), 0, 0, 9999, 3);
    takes("the last one of 2 WORDS, 999899 of 999999", withWords(2), 0, 0, 9999, 2);
    takes("the first one, 0 is drawn", withWords(3), 0, 0, 0, 0);
  }

  private static void sumsAboveWhatWasDrawn() {
    // 250000 each: drawn are 100 times the LUCK.
    int[][] due = {
      {0, 0}, {2499, 0}, {2500, 1}, {4999, 1}, {5000, 2}, {7499, 2}, {7500, 3}, {9999, 3}
    };
    for (int[] pair : due) {
      takes("250000 each", withWords(3), 0, 0, pair[0], pair[1]);
      Canticle x = withWords(3);
      x.setLuck(luckAhead(pair[0]));
      Check.same("wouldDraw() by " + pair[0], x.wouldDraw(), pair[1]);
    }
    // A sum of 0 so far is not above 0: those without a chance are not taken.
    Canticle y = withWords(3);
    y.setWay(1, 1000);
    teach(y, 1, 2);
    y.hush();
    chancesAre("only 2 is seen", y, 0, 0, UNIT, 0);
    takes("0 is drawn", y, 0, 0, 0, 2);
    y.hush();
    takes("999900 is drawn", y, 0, 0, 9999, 2);
    // 9000, 738749 and 252250 are 999999: 90 draws 8999, just below 9000, and 91 draws 9099.
    for (int luck = 90; luck <= 91; luck++) {
      Canticle z = small();
      z.setWay(0, 37);
      chancesAre("999999 in all", z, 9000, 738749, 252250);
      takes("999999 in all", z, 0, 0, luck, luck - 90);
    }
  }

  private static void sumOf0() {
    // All but 0, which is sure: 1 is the first one of 1, 2 and the END.
    takes("all but the sure one", sure(3), 4, 0, 0, 1);
    takes("all but the sure one", sure(3), 4, 0, 9999, 1);
    takes("the END alone", sure(1), 4, 0, 9999, 1);
    Canticle x = sure(3);
    x.say(0);
    takes("all but the END, which is sure", x, 4, 3, 9999, 0);
  }

  // ---- STEPS

  private static void stepsUpTo12() {
    Canticle x = withWords(2);
    for (int place = 0; place < 12; place++) {
      Check.same("addStep", x.addStep(2, place % 2), place);
    }
    Check.throwing("the 13th STEP", Check.STATE, () -> x.addStep(2, 0));
    Check.same("runScript() of 12 STEPS", x.runScript(), 12);
    row("each of the 12", x, 0, 1, 0, 1, 0, 1, 0, 1, 0, 1, 0, 1);
    Check.same("clearScript()", x.clearScript(), 12);
  }

  private static void drawnOfAll() {
    takes("the smallest of all", withWords(12), 0, MIN, 0, 0);
    takes("the END of all", withWords(12), 0, MAX, 9999, 12);
    // 76923 each, 999999 in all: 9231 draws 923099, and the END is from 923076 on.
    takes("the first that is the END", withWords(12), 0, 0, 9231, 12);
    takes("the last that is 11", withWords(12), 0, 0, 9230, 11);
    takes("one WORD", withWords(1), 0, 0, 4999, 0);
    takes("one WORD, the END", withWords(1), 0, 0, 5000, 1);
  }

  private static void likeliestOfSeveral() {
    takes("all are the same", withWords(12), 1, 0, 9999, 0);
    takes("1 is likelier than 0", small(), 1, 0, 0, 1);
    Canticle x = small();
    x.say(1);
    takes("the END is the likeliest", x, 1, 0, 0, 2);
    Canticle y = withWords(12);
    teach(y, 1, 11);
    teach(y, 1, 4);
    y.hush();
    takes("4 and 11 are the likeliest", y, 1, 0, 9999, 4);
    Canticle z = withWords(2);
    z.setWay(1, 1000);
    teach(z, 1, 1);
    teach(z, 1);
    takes("1 and the END are the likeliest", z, 1, 0, 9999, 1);
  }

  private static void wordIsTaken() {
    takes("the first WORD", withWords(12), 2, 0, 9999, 0);
    takes("the last WORD", withWords(12), 2, 11, 0, 11);
    takes("a WORD without a chance", sure(3), 2, 2, 0, 2);
    Canticle x = withWords(1);
    x.addStep(2, 0);
    x.addWord();
    Check.same("a WORD of before", x.runScript(), 1);
    row("a WORD of before", x, 0);
  }

  private static void oneOrTwoLikeliest() {
    // 90909, 636363 and 272727 behind 0.
    takes("the likeliest one", small(), 3, 1, 0, 1);
    takes("the likeliest one", small(), 3, 1, 9999, 1);
    // 1 and the END, 909090 in all: 7000 draws 636363, which is not above itself.
    takes("of two the first by its number", small(), 3, 2, 6999, 1);
    takes("of two the last by its number", small(), 3, 2, 7000, 2);
    takes("of two the least likely is never taken", small(), 3, 2, 0, 1);
    takes("of all three", small(), 3, 3, 0, 0);
  }

  private static void smallerCountAsLikelier() {
    takes("0 of all that are the same", withWords(12), 3, 1, 9999, 0);
    takes("0 and 1", withWords(3), 3, 2, 4999, 0);
    takes("0 and 1", withWords(3), 3, 2, 5000, 1);
    takes("0 and 1", withWords(3), 3, 2, 9999, 1);
    takes("0 to 2, not the END", withWords(3), 3, 3, 9999, 2);
    takes("0 to 11, not the END", withWords(12), 3, 12, 9999, 11);
    // Of 1 and the END, both as likely, 1 is the likelier one.
    Canticle x = withWords(2);
    x.setWay(1, 1000);
    teach(x, 1, 1);
    teach(x, 1);
    takes("1 of 1 and the END", x, 3, 1, 9999, 1);
  }

  private static void likeliestOfAll() {
    takes("just all", withWords(3), 3, 4, 9999, 3);
    takes("no more", withWords(3), 3, 5, 9999, 3);
    takes("no more", withWords(3), 3, 12, 9999, 3);
    takes("no more", withWords(3), 3, 12, 7499, 2);
    takes("no more", withWords(1), 3, 3, 5000, 1);
    takes("no more", small(), 3, 4, 0, 0);
  }

  private static void allButOne() {
    takes("but the first one", withWords(3), 4, 0, 0, 1);
    takes("but the first one", withWords(3), 4, 0, 9999, 3);
    takes("but the second one", withWords(3), 4, 1, 3333, 0);
    takes("but the second one", withWords(3), 4, 1, 3334, 2);
    takes("but the second one", withWords(3), 4, 1, 6666, 2);
    takes("but the second one", withWords(3), 4, 1, 6667, 3);
    takes("but the END", withWords(3), 4, 3, 9999, 2);
    takes("but the END of 12", withWords(12), 4, 12, 9999, 11);
    takes("but the only WORD", withWords(1), 4, 0, 0, 1);
    takes("but the only END", withWords(1), 4, 1, 9999, 0);
  }

  private static void numberStays() {
    // 1 was the END, and is a WORD then: 0 and the END, 2, are left.
    for (int luck : of(0, 4999, 5000, 9999)) {
      Canticle x = withWords(1);
      x.addStep(4, 1);
      x.addWord();
      x.setLuck(luckAhead(luck));
      Check.same("runScript() by " + luck, x.runScript(), luck < 5000 ? 1 : 0);
      Check.holds("hasEnded() by " + luck, x.hasEnded() == luck >= 5000);
    }
    // 0 was the END without WORDS.
    Canticle y = new Canticle();
    y.addStep(4, 0);
    y.addWord();
    y.addWord();
    y.runScript();
    row("0 is left out", y, 1);
    // 12 is the END of 12 WORDS, and stays it.
    Canticle z = withWords(11);
    z.addStep(4, 11);
    z.addWord();
    z.setLuck(luckAhead(9999));
    z.runScript();
    Check.holds("the END of 12 is drawn", z.hasEnded());
  }

  private static Canticle withSteps(int words, int[]... steps) {
    Canticle x = withWords(words);
    for (int[] step : steps) {
      x.addStep(step[0], step[1]);
    }
    return x;
  }

  private static void goingBack() {
    for (int a = 1; a <= 12; a++) {
      Canticle x = withSteps(2, of(2, 0), of(5, a), of(2, 1));
      int due = Math.min(12, a + 2);
      Check.same("back " + a + " times", x.runScript(), due);
      Check.same("passed behind " + a + " times", x.wordAt(due - 1), a + 2 <= 12 ? 1 : 0);
      x.hush();
      Check.same("anew in the next run, " + a, x.runScript(), due);
    }
    Canticle first = withSteps(1, of(5, 3), of(2, 0));
    Check.same("from the first STEP to itself", first.runScript(), 1);
    Canticle each = withSteps(3, of(2, 0), of(5, 1), of(2, 1), of(5, 1), of(2, 2));
    each.runScript();
    row("each has its own times", each, 0, 0, 1, 0, 1, 2);
    Canticle last = withSteps(1, of(2, 0), of(5, 1));
    Check.same("passed as the last STEP", last.runScript(), 2);
    Canticle alone = withWords(1);
    for (int place = 0; place < 12; place++) {
      alone.addStep(5, 12);
    }
    Check.same("12 that go back 12 times", alone.runScript(), 0);
    Check.holds("12 that go back 12 times, hasEnded()", !alone.hasEnded());
  }

  private static void behindTheSentenceThen() {
    // Sure are 0 behind BEGIN, 1 behind 0, 2 behind 1, and the END behind 2.
    for (int[] step : new int[][] {{0, 0}, {1, 0}, {3, 1}}) {
      Canticle x = withSteps(3, step, of(5, 12));
      x.setWay(1, 1000);
      teach(x, 1, 0, 1, 2);
      x.hush();
      Check.same("STEP " + step[0] + " from BEGIN to the END", x.runScript(), 3);
      row("STEP " + step[0], x, 0, 1, 2);
      Check.holds("STEP " + step[0] + ", hasEnded()", x.hasEnded());
    }
    Canticle y = withSteps(3, of(2, 1), of(1, 0), of(4, 3), of(2, 2));
    y.setWay(1, 1000);
    teach(y, 1, 0, 1, 2);
    y.hush();
    y.runScript();
    row("1 told, 2 likeliest, all but the END, 2 told", y, 1, 2, 0, 2);
  }

  private static void endsAtTheEnd() {
    Canticle x = withSteps(2, of(1, 0), of(2, 0), of(0, 0));
    x.setWay(1, 1000);
    teach(x, 1, 1);
    Check.same("runScript()", x.runScript(), 1);
    row("no END, and nothing behind it", x, 1);
    Check.holds("hasEnded()", x.hasEnded());
    Check.same("draws()", x.draws(), 0);
    x.hush();
    Check.same("runScript(), 1 and then 0 and one that is drawn", x.runScript(), 3);
    Check.holds("hasEnded() of that", !x.hasEnded());
    Canticle back = withSteps(1, of(1, 0), of(5, 12));
    back.setWay(1, 1000);
    teach(back, 1);
    Check.same("the END at once", back.runScript(), 0);
    Check.holds("the END at once, hasEnded()", back.hasEnded());
  }

  private static void endsAt12Words() {
    Canticle x = withSteps(2, of(0, 0), of(2, 1));
    speakZeros(x, 12);
    x.setLuck(77);
    Check.same("runScript() of 12 WORDS", x.runScript(), 12);
    Check.same("no draw of 12 WORDS", x.draws(), 0);
    Check.same("luck() of 12 WORDS", x.luck(), 77);
    Check.holds("hasEnded() of 12 WORDS", !x.hasEnded());
    speakZeros(x, 11);
    x.setLuck(luckAhead(0));
    Check.same("runScript() of 11 WORDS", x.runScript(), 12);
    Check.same("one draw of 11 WORDS", x.draws(), 1);
    Check.same("the 12th", x.wordAt(11), 0);
    speakZeros(x, 10);
    x.setLuck(luckAhead(0));
    Check.same("runScript() of 10 WORDS", x.runScript(), 12);
    Check.same("the 12th behind 10", x.wordAt(11), 1);
    // The END would be taken next, but the script is over.
    Canticle y = withSteps(1, of(2, 0), of(1, 0));
    y.setWay(1, 1000);
    teach(y, 1, 0);
    speakZeros(y, 11);
    y.runScript();
    Check.holds("hasEnded() where the 12th came first", !y.hasEnded());
  }

  private static void endsBehindSteps() {
    Canticle x = withSteps(1, of(2, 0));
    Check.same("one STEP", x.runScript(), 1);
    Check.holds("one STEP, hasEnded()", !x.hasEnded());
    Check.same("one STEP again", x.runScript(), 2);
    Canticle y = withSteps(1, of(5, 1));
    Check.same("one STEP that goes back", y.runScript(), 0);
    Check.holds("one STEP that goes back, hasEnded()", !y.hasEnded());
  }

  // ---- promises 25 to 27

  private static void luckBefore() {
    Canticle x = new Canticle();
    Check.same("setLuck(9999)", x.setLuck(9999), 0);
    Check.same("setLuck(9999) again", x.setLuck(9999), 9999);
    Check.same("setLuck(0)", x.setLuck(0), 9999);
    Check.same("setLuck(1)", x.setLuck(1), 0);
    Canticle y = withSteps(1, of(0, 0));
    y.runScript();
    Check.same("setLuck(0) behind a draw", y.setLuck(0), 2777);
  }

  private static void noSuchLuck() {
    for (int luck : of(-1, 10000, MIN, MAX)) {
      refused(() -> rich(3), "setLuck(" + luck + ")", Check.ARGUMENT, x -> x.setLuck(luck));
    }
    Check.same("setLuck(0)", rich(3).setLuck(0), 1234);
    Check.same("setLuck(9999)", rich(3).setLuck(9999), 1234);
  }

  private static void numbersNotLookedAt() {
    for (int a : of(MIN, -1, 0, 3, 13, MAX)) {
      Canticle x = withSteps(3, of(0, a), of(1, a));
      x.setLuck(luckAhead(2500));
      Check.same("runScript() with " + a, x.runScript(), 2);
      row("with " + a, x, 1, 0);
    }
    Check.same("addStep(0, MIN) without WORDS", new Canticle().addStep(0, MIN), 0);
    Check.same("addStep(1, MAX) without WORDS", new Canticle().addStep(1, MAX), 0);
  }

  private static void placesOfSteps() {
    Canticle x = withWords(1);
    for (int place = 0; place < 12; place++) {
      Check.same("addStep", x.addStep(place % 2, 0), place);
    }
    x.clearScript();
    Check.same("addStep behind clearScript()", x.addStep(0, 0), 0);
    x.runScript();
    Check.same("addStep behind runScript()", x.addStep(0, 0), 1);
  }

  private static void noSuchStep() {
    int[][] wrong = {
      {-1, 1}, {6, 1}, {MIN, 1}, {MAX, 1}, {2, -1}, {2, 3}, {2, 4}, {2, MIN}, {2, MAX}, {4, -1},
      {4, 4}, {4, MIN}, {4, MAX}, {3, 0}, {3, 13}, {3, -1}, {3, MIN}, {3, MAX}, {5, 0}, {5, 13},
      {5, -1}, {5, MIN}, {5, MAX}
    };
    for (int[] step : wrong) {
      refused(() -> rich(3), "addStep(" + step[0] + ", " + step[1] + ")", Check.ARGUMENT,
          x -> x.addStep(step[0], step[1]));
    }
    int[][] fine = {{0, 1}, {1, 1}, {2, 0}, {2, 2}, {4, 0}, {4, 2}, {4, 3}, {3, 1}, {3, 12}, {5, 1},
        {5, 12}};
    for (int[] step : fine) {
      Check.same("addStep(" + step[0] + ", " + step[1] + ")", rich(3).addStep(step[0], step[1]), 3);
    }
    refused(Canticle::new, "addStep(2, 0) without WORDS", Check.ARGUMENT, x -> x.addStep(2, 0));
    refused(Canticle::new, "addStep(4, 1) without WORDS", Check.ARGUMENT, x -> x.addStep(4, 1));
    Check.same("addStep(4, 0) without WORDS", new Canticle().addStep(4, 0), 0);
    refused(() -> rich(12), "addStep(2, 12) of 12", Check.ARGUMENT, x -> x.addStep(2, 12));
    refused(() -> rich(12), "addStep(4, 13) of 12", Check.ARGUMENT, x -> x.addStep(4, 13));
    Check.same("addStep(4, 12) of 12", rich(12).addStep(4, 12), 3);
  }

  private static Canticle richWithSteps(int many) {
    Canticle x = rich(3);
    for (int place = 3; place < many; place++) {
      x.addStep(2, place % 3);
    }
    return x;
  }

  private static void step13() {
    for (int code = 0; code <= 5; code++) {
      int any = code;
      refused(() -> richWithSteps(12), "addStep(" + code + ", 1) of the 13th", Check.STATE,
          x -> x.addStep(any, 1));
      Check.same("addStep(" + code + ", 1) of the 12th", richWithSteps(11).addStep(any, 1), 11);
    }
  }

  private static void had0To12Steps() {
    Canticle x = withWords(1);
    for (int many = 0; many <= 12; many++) {
      for (int place = 0; place < many; place++) {
        x.addStep(2, 0);
      }
      Check.same("clearScript()", x.clearScript(), many);
      Check.same("clearScript() again", x.clearScript(), 0);
      Check.throwing("runScript() of none", Check.STATE, x::runScript);
    }
  }

  // ---- promises 28 to 31

  private static void fromAsItIs() {
    Canticle x = withSteps(2, of(2, 1));
    x.runScript();
    row("from the empty SENTENCE", x, 1);
    speak(x, 0, 0);
    x.runScript();
    row("from 0 0", x, 0, 0, 1);
    speakZeros(x, 12);
    x.runScript();
    row("from 12", x, 0, 0, 0, 0, 0, 0, 0, 0, 0, 0, 0, 0);
  }

  private static void wordsBehindARun() {
    for (int size = 0; size <= 12; size++) {
      Canticle x = withSteps(1, of(2, 0));
      speakZeros(x, size);
      Check.same("runScript() from " + size, x.runScript(), Math.min(12, size + 1));
      Canticle y = withSteps(1, of(4, 0));
      speakZeros(y, size);
      Check.same("runScript() from " + size + " to the END", y.runScript(), size);
    }
  }

  private static void nothingToRun() {
    refused(() -> withSteps(0, of(0, 0)), "runScript() without WORDS", Check.STATE,
        Canticle::runScript);
    refused(Canticle::new, "runScript() without WORDS and STEPS", Check.STATE, Canticle::runScript);
    refused(() -> withWords(1), "runScript() without STEPS", Check.STATE, Canticle::runScript);
    refused(() -> richWithoutSteps(), "runScript() behind clearScript()", Check.STATE,
        Canticle::runScript);
    Check.same("runScript() with one of each", withSteps(1, of(2, 0)).runScript(), 1);
  }

  private static Canticle richWithoutSteps() {
    Canticle x = rich(3);
    x.clearScript();
    return x;
  }

  private static void endedByTheLatest() {
    Canticle x = withWords(1);
    Check.holds("ahead of the first run", !x.hasEnded());
    Check.throwing("runScript()", Check.STATE, x::runScript);
    Check.holds("ahead of the first run, behind a refused one", !x.hasEnded());
    x.addStep(4, 0);
    x.runScript();
    Check.holds("behind the END", x.hasEnded());
    x.hush();
    x.addWord();
    x.setOrder(3);
    x.clearScript();
    Check.holds("no run since", x.hasEnded());
    Check.throwing("runScript()", Check.STATE, x::runScript);
    Check.holds("only a refused run since", x.hasEnded());
    x.addStep(2, 0);
    x.runScript();
    Check.holds("behind a run without the END", !x.hasEnded());
    x.clearScript();
    x.addStep(4, 0);
    x.setLuck(luckAhead(9999));
    x.runScript();
    Check.holds("behind the END again", x.hasEnded());
    speakZeros(x, 12);
    x.runScript();
    Check.holds("behind a run that was over at the beginning", !x.hasEnded());
  }

  private static void luck0To9999() {
    Canticle x = new Canticle();
    for (int luck : of(0, 1, 9998, 9999, 0)) {
      x.setLuck(luck);
      answeredAgain("luck()", x, luck);
    }
    // 1, then 2777 of it, then 5294: twice on.
    Canticle y = withSteps(12, of(3, 1), of(3, 1));
    y.runScript();
    answeredAgain("luck() behind two draws", y, 5294);
  }

  private static void answeredAgain(String what, Canticle x, int due) {
    Check.same(what, x.luck(), due);
    Check.same(what + " again", x.luck(), due);
  }

  private static void drawsInAll() {
    Canticle x = new Canticle();
    Check.same("draws() at first", x.draws(), 0);
    x.addWord();
    x.addStep(1, 0);
    x.addStep(2, 0);
    x.runScript();
    Check.same("draws() of STEPS that do not draw", x.draws(), 0);
    x.clearScript();
    x.addStep(3, 1);
    x.addStep(5, 12);
    x.runScript();
    Check.same("draws() of 10 places that were left", x.draws(), 10);
    x.runScript();
    Check.same("draws() of none", x.draws(), 10);
    x.hush();
    x.wouldDraw();
    Check.same("draws() behind wouldDraw()", x.draws(), 10);
    x.addWord();
    x.setOrder(4);
    x.setLuck(0);
    x.clearScript();
    Check.same("draws() of before are kept", x.draws(), 10);
    x.addStep(0, 0);
    x.runScript();
    Check.same("draws() of another run", x.draws(), 11);
  }
}
