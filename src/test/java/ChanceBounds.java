import java.util.List;

/** Bounds of chances and SCORES: the second and third head of the terms, promises 18 to 24. */
final class ChanceBounds extends Boundaries {
  private static final String TERMS = "Terms";

  private ChanceBounds() {}

  static void all() {
    termsOfChances();
    termsOfScores();
    promises18To20();
    promises21To24();
  }

  private static void termsOfChances() {
    sentence(TERMS, "All numbers are whole, if nothing else is said. / is cut towards 0. UNIT is"
        + " 1000000.", ChanceBounds::cutTowards0);
    sentence(TERMS, "For h of n - 1, above 0, h' is h without its first one.",
        ChanceBounds::shorterContexts);
    sentence(TERMS, "With h nothing, P' is UNIT / (V + 1), otherwise P' is P(w, h').",
        ChanceBounds::behindNothing);
    sentence(TERMS, "The WAY is one of these (0, at first), with a NUMBER k, 1 to 1000 (500, at"
        + " first):", ChanceBounds::wayAndNumber);
    sentence(TERMS, "0 ADDED: (c(h, w) * 1000 + k) * UNIT / (c(h) * 1000 + k * (V + 1)).",
        ChanceBounds::added);
    sentence(TERMS, "1 MIXED: P', if c(h) is 0, otherwise (k * (c(h, w) * UNIT / c(h)) + (1000 - k)"
        + " * P') / 1000.", ChanceBounds::mixed);
    sentence(TERMS, "2 SEEN: P', if c(h) is 0, otherwise (c(h, w) * UNIT + t(h) * P') / (c(h) +"
        + " t(h)).", ChanceBounds::seen);
    sentence(TERMS, "3 TAKEN: P', if c(h) is 0, otherwise (u * UNIT + k * t(h) * P') / (c(h) *"
        + " 1000),", ChanceBounds::taken);
    sentence(TERMS, "with u c(h, w) * 1000 - k, but not below 0", ChanceBounds::notBelow0);
    sentence(TERMS, "4 VARIED: like 3, but for h of less than N - 1 with other numbers in the place"
        + " of COUNTS:", ChanceBounds::lessThanTheLongest);
    sentence(TERMS, "c(h, w) is how many x there are with an ENTRY (x h, w), x ahead of h",
        ChanceBounds::howManyAhead);
    sentence(TERMS, "(t(h) is how many w there are for which this c(h, w) is above 0)",
        ChanceBounds::kindsAhead);
    sentence(TERMS, "(COUNTS and ENTRIES are those that are there now, also behind pruning.)",
        ChanceBounds::behindPruning);
  }

  private static void termsOfScores() {
    sentence(TERMS, "32768, if p is 0 (or less)", ChanceBounds::costOf0);
    sentence(TERMS, "0, if it is UNIT or more", ChanceBounds::costOfUnit);
    sentence(TERMS, "otherwise, with k the greatest number, from 0 on, for which p is not above"
        + " UNIT / 2^k", ChanceBounds::costsAtHalves);
    sentence(TERMS, "The SCORE of a SENTENCE is the sum of the COSTS of P(w, h), for each place,"
        + " and that behind it, with w the WORD there (or the END), and h the N - 1 ahead of it,"
        + " with BEGIN where there are none.", ChanceBounds::scoredPlaces);
  }

  private static void promises18To20() {
    String setWay = "Promise 18: setWay";
    sentence(setWay, "Returns the WAY before.", ChanceBounds::wayBefore);
    sentence(setWay, "Throws `IllegalArgumentException` if way is not 0 to 4, or number is not 1 to"
        + " 1000", ChanceBounds::noSuchWay);
    String chance = "Promise 19: chance";
    sentence(chance, "a WORD, or V for the END", ChanceBounds::chanceOfTheEnd);
    sentence(chance, "with h the N - 1 last WORDS of the SENTENCE, with BEGIN where there are"
        + " none.", ChanceBounds::lastWords);
    sentence(chance, "Throws `IndexOutOfBoundsException` if there is no such WORD, and it is not V",
        ChanceBounds::noChance);
    String ranked = "Promise 20: ranked";
    sentence(ranked, "a rank, from 0 to V", ChanceBounds::firstAndLastRank);
    sentence(ranked, "the likeliest one first, of several the smallest one",
        ChanceBounds::ranksOfTheSame);
    sentence(ranked, "Throws `IndexOutOfBoundsException` if there is no such rank",
        ChanceBounds::noSuchRank);
  }

  private static void promises21To24() {
    sentence("Promise 21: costOf", "Returns its COST.", ChanceBounds::costOfAnyNumber);
    sentence("Promise 22: score", "Returns the SCORE of the SENTENCE.", ChanceBounds::scoreOf0To12);
    sentence("Promise 23: meanCost", "Returns the SCORE of the SENTENCE, divided by how many places"
        + " were scored (its WORDS and the END), not cut.", ChanceBounds::meanNotCut);
    String complete = "Promise 24: complete";
    sentence(complete, "of all rows of WORDS of some length that begin with the SENTENCE the one"
        + " whose SCORE is least", ChanceBounds::leastOfAllRows);
    sentence(complete, "of several the one with the smallest WORD at the first place at which they"
        + " differ; the SENTENCE becomes that", ChanceBounds::firstOfTheSame);
    sentence(complete, "Throws `IllegalArgumentException` if length is less than the length of the"
        + " SENTENCE, or above 12", ChanceBounds::noSuchLength);
    sentence(complete, "Throws `IllegalStateException` if there is no WORD",
        ChanceBounds::noWordToComplete);
  }

  private static void behind(Canticle x, int way, int number, int... due) {
    x.setWay(way, number);
    chancesAre("way " + way + ", " + number, x, due);
  }

  // ---- the terms of chances

  private static void cutTowards0() {
    Check.same("UNIT / 1", new Canticle().chance(0), 1000000);
    chancesAre("UNIT / 3", withWords(2), 333333, 333333, 333333);
    Canticle x = withWords(1);
    x.setWay(0, 1000);
    teach(x, 1, 0);
    chancesAre("2 * UNIT / 3 is not rounded", x, 333333, 666666);
  }

  private static void shorterContexts() {
    Canticle x = small(3, 4);
    x.setWay(1, 1000);
    speak(x, 2, 2, 0);
    chancesAre("of (2 2 0), (2 0), (0) only the last one is there", x, 0, 750000, 0, 250000);
    speak(x, 2, 0, 1);
    chancesAre("of (2 0 1), (0 1), the second one is there", x, 0, 0, 0, UNIT);
    speak(x, 2, 2, 2);
    chancesAre("of (2 2 2), (2 2), (2) none is there", x, 363636, 272727, 0, 363636);
  }

  private static void behindNothing() {
    int[] due = {
      1000000, 500000, 333333, 250000, 200000, 166666, 142857, 125000, 111111, 100000, 90909,
      83333, 76923
    };
    for (int order = 1; order <= 4; order++) {
      for (int v = 0; v <= 12; v++) {
        Canticle x = withOrder(v, order);
        for (int way = 1; way <= 4; way++) {
          x.setWay(way, 1000);
          Check.same("of the END, " + v + " WORDS, way " + way, x.chance(v), due[v]);
          Check.same("of the first one, " + v + " WORDS, way " + way, x.chance(0), due[v]);
        }
      }
    }
    Canticle y = small(3, 2);
    y.say(2);
    behind(y, 1, 1000, 363636, 272727, 0, 363636);
  }

  private static void wayAndNumber() {
    Check.same("the WAY at first", new Canticle().setWay(1, 1), 0);
    // By ADDED 1500 of 1000 + 500 * 2: the NUMBER is 500.
    Canticle x = withWords(1);
    teach(x, 1, 0);
    chancesAre("the NUMBER at first", x, 250000, 750000);
    Check.same("setWay(0, 1)", x.setWay(0, 1), 0);
    chancesAre("the NUMBER 1", x, 998, 999001);
    Check.same("setWay(4, 1000)", x.setWay(4, 1000), 0);
    chancesAre("the NUMBER 1000", x, 500000, 500000);
    Check.throwing("setWay(5, 1)", Check.ARGUMENT, () -> x.setWay(5, 1));
    Check.throwing("setWay(-1, 1)", Check.ARGUMENT, () -> x.setWay(-1, 1));
    Check.throwing("setWay(0, 0)", Check.ARGUMENT, () -> x.setWay(0, 0));
    Check.throwing("setWay(0, 1001)", Check.ARGUMENT, () -> x.setWay(0, 1001));
  }

  private static void added() {
    Canticle x = small();
    behind(x, 0, 1, 249, 749687, 250062);
    behind(x, 0, 1000, 142857, 571428, 285714);
    Canticle unseen = small(3, 2);
    unseen.say(2);
    behind(unseen, 0, 1, 250000, 250000, 250000, 250000);
    behind(unseen, 0, 1000, 250000, 250000, 250000, 250000);
    Canticle none = new Canticle();
    behind(none, 0, 1, UNIT);
    behind(none, 0, 1000, UNIT);
  }

  private static void mixed() {
    Canticle x = small();
    behind(x, 1, 1, 333029, 333688, 333279);
    behind(x, 1, 999, 363, 749522, 250113);
    behind(x, 1, 1000, 0, 750000, 250000);
    Canticle unseen = small(3, 2);
    unseen.say(2);
    behind(unseen, 1, 1, 250113, 250022, 249750, 250113);
    behind(unseen, 1, 1000, 363636, 272727, 0, 363636);
  }

  private static void seen() {
    Canticle x = small();
    behind(x, 2, 1, 119047, 595238, 285714);
    behind(x, 2, 1000, 119047, 595238, 285714);
    Canticle unseen = small(3, 2);
    unseen.say(2);
    behind(unseen, 2, 1, 339285, 267857, 53571, 339285);
    Canticle nothing = withWords(2);
    behind(nothing, 2, 1, 333333, 333333, 333333);
  }

  private static void taken() {
    Canticle x = small();
    behind(x, 3, 1, 181, 749886, 249931);
    behind(x, 3, 1000, 181818, 636363, 181818);
    Canticle unseen = small(3, 2);
    unseen.say(2);
    behind(unseen, 3, 1, 363613, 272704, 68, 363613);
    behind(unseen, 3, 1000, 340909, 250000, 68181, 340909);
    Canticle nothing = withWords(2);
    behind(nothing, 3, 1000, 333333, 333333, 333333);
  }

  private static void notBelow0() {
    // c(h, w) is 0 or 1 with the NUMBER 1000: u is 0, not -1000 nor below.
    Canticle x = withOrder(1, 1);
    teach(x, 1, 0);
    behind(x, 3, 1000, 500000, 500000);
    behind(x, 3, 999, 500000, 500000);
    Canticle y = withOrder(2, 1);
    teach(y, 1, 0);
    // Of 1 u is 0: 2000 * 333333 of 2000; just above it: (UNIT + 2 * 999 * 333333) / 2000.
    behind(y, 3, 1000, 333333, 333333, 333333);
    behind(y, 3, 999, 333499, 332999, 333499);
    behind(y, 3, 1, 499833, 333, 499833);
  }

  private static void lessThanTheLongest() {
    // Of the ORDER 1 nothing is just N - 1: by COUNTS.
    Canticle x = small(2, 1);
    behind(x, 4, 1, 363636, 272727, 363636);
    behind(x, 4, 1000, 363636, 272727, 363636);
    // Of the ORDER 2 nothing is less, (0) is just N - 1.
    x = small();
    behind(x, 4, 1, 124, 749874, 249999);
    behind(x, 4, 1000, 124999, 624999, 249999);
    // Of the ORDER 3 (BEGIN 0) is by COUNTS, and (0), behind 0 0, is not.
    x = small(2, 3);
    behind(x, 4, 500, 31249, 718749, 249999);
    x.say(0);
    behind(x, 4, 500, 124999, 374999, 499999);
    x = small(2, 4);
    behind(x, 4, 500, 15624, 734374, 249999);
    speak(x, 0, 0, 0);
    behind(x, 4, 500, 124999, 374999, 499999);
  }

  private static void howManyAhead() {
    // Only BEGIN stands ahead of 0, only 0 ahead of the END: 1 of 2 each, however often.
    Canticle x = withWords(2);
    teach(x, 100, 0);
    x.say(1);
    behind(x, 4, 1, 499833, 333, 499833);
    // BEGIN and all 12 WORDS stand ahead of the END, BEGIN alone ahead of each WORD.
    Canticle y = withWords(12);
    for (int w = 0; w < 12; w++) {
      teach(y, 5, w);
    }
    teach(y, 1);
    y.say(0);
    behind(y, 4, 1000, 7999, 7999, 7999, 7999, 7999, 7999, 7999, 7999, 7999, 7999, 7999, 7999,
        903999);
    // (BEGIN END) goes and comes back: of 24, then of 25.
    y.prune(2, 2);
    Check.same("ahead of the END all 12", y.chance(12), 899999);
    y.hush();
    y.learn(1);
    y.say(0);
    Check.same("ahead of the END BEGIN and 12", y.chance(12), 903999);
  }

  private static void kindsAhead() {
    // (0 END) is gone: 1 each for 0, 1, the END: 3 kinds of 3, (500 * UNIT + 1500 * 333333) / 3000.
    Canticle x = small(3, 2);
    x.prune(2, 2);
    x.say(2);
    // With 3 WORDS 250000 each: (500 * UNIT + 1500 * 250000) / 3000, and of 2 its share alone.
    behind(x, 4, 500, 291666, 291666, 125000, 291666);
    // (BEGIN 0) alone is left: 1 kind, though COUNTS tell of 3.
    x.prune(2, 4);
    behind(x, 4, 500, 625000, 125000, 125000, 125000);
    x.prune(2, 1000);
    behind(x, 4, 500, 250000, 250000, 250000, 250000);
  }

  private static void behindPruning() {
    Canticle x = small();
    x.prune(2, 1000);
    behind(x, 0, 500, 333333, 333333, 333333);
    behind(x, 1, 500, 348484, 303030, 348484);
    behind(x, 2, 500, 357142, 285714, 357142);
    behind(x, 3, 500, 363636, 272727, 363636);
    behind(x, 4, 500, 333333, 333333, 333333);
    // Without the order 3 nothing stands ahead of (0 1), which is there still.
    Canticle y = small(2, 3);
    y.prune(3, 1000);
    behind(y, 3, 500, 90909, 693181, 215909);
    behind(y, 4, 500, 249999, 249999, 499999);
    // One is left of (0 1) and (0 END).
    Canticle z = small();
    z.prune(2, 2);
    behind(z, 1, 1000, 0, UNIT, 0);
    behind(z, 0, 1, 333, 999333, 333);
  }

  // ---- the terms of SCORES

  private static void costOf0() {
    Canticle x = new Canticle();
    Check.same("costOf(0)", x.costOf(0), 32768);
    Check.same("costOf(-1)", x.costOf(-1), 32768);
    Check.same("costOf(MIN)", x.costOf(MIN), 32768);
    Check.same("costOf(1)", x.costOf(1), 19456);
  }

  private static void costOfUnit() {
    Canticle x = new Canticle();
    Check.same("costOf(UNIT)", x.costOf(UNIT), 0);
    Check.same("costOf(UNIT + 1)", x.costOf(UNIT + 1), 0);
    Check.same("costOf(MAX)", x.costOf(MAX), 0);
    // 1024 / 500000 is cut, 1024 * 489 / 500000 is 1.
    Check.same("costOf(UNIT - 1)", x.costOf(UNIT - 1), 0);
    Check.same("costOf(UNIT - 488)", x.costOf(UNIT - 488), 0);
    Check.same("costOf(UNIT - 489)", x.costOf(UNIT - 489), 1);
  }

  private static void costsAtHalves() {
    Canticle x = new Canticle();
    int[] halves = {
      1000000, 500000, 250000, 125000, 62500, 31250, 15625, 7812, 3906, 1953, 976, 488, 244, 122,
      61, 30, 15, 7, 3, 1, 0
    };
    for (int k = 0; k < 20; k++) {
      int a = halves[k];
      int b = halves[k + 1];
      Check.same("costOf(" + a + ")", x.costOf(a), 1024 * k);
      int due = 1024 * k + 1024 * (a - b - 1) / (a - b);
      Check.same("costOf(" + (b + 1) + ")", x.costOf(b + 1), due);
    }
    Check.same("costOf(2), between 3 and 1", x.costOf(2), 18432 + 512);
    Check.same("costOf(750000)", x.costOf(750000), 512);
    Check.same("costOf(500001)", x.costOf(500001), 1023);
    Check.same("costOf(499999)", x.costOf(499999), 1024);
  }

  private static void scoredPlaces() {
    for (int order = 2; order <= 4; order++) {
      Canticle x = withOrder(1, order);
      x.setWay(1, 1000);
      teach(x, 1, 0);
      Check.same("behind BEGIN 0 and 0 the END are sure", x.score(), 0);
      x.hush();
      Check.same("the END alone, behind BEGIN", x.score(), 32768);
      speakZeros(x, 12);
      Check.same("0 behind 0, 11 times", x.score(), 11 * 32768);
    }
    Canticle y = withOrder(1, 3);
    y.setWay(2, 1);
    teach(y, 1, 0);
    Check.same("875000 twice", y.score(), 512);
    y.hush();
    Check.same("125000", y.score(), 3072);
    speakZeros(y, 12);
    Check.same("12 WORDS, the order 3", y.score(), 24320);
  }

  // ---- promises 18 to 20

  private static void wayBefore() {
    Canticle x = new Canticle();
    int before = 0;
    for (int way : of(0, 1, 2, 3, 4, 4, 0)) {
      Check.same("setWay(" + way + ", 7)", x.setWay(way, 7), before);
      before = way;
    }
  }

  private static void noSuchWay() {
    for (int way : of(-1, 5, MIN, MAX)) {
      refused(() -> rich(3), "setWay(" + way + ", 500)", Check.ARGUMENT, x -> x.setWay(way, 500));
    }
    for (int number : of(0, 1001, -1, MIN, MAX)) {
      refused(() -> rich(3), "setWay(1, " + number + ")", Check.ARGUMENT,
          x -> x.setWay(1, number));
    }
    for (int way = 0; way <= 4; way++) {
      int fine = way;
      Check.same("setWay(" + way + ", 1)", rich(3).setWay(fine, 1), 4);
      Check.same("setWay(" + way + ", 1000)", rich(3).setWay(fine, 1000), 4);
    }
  }

  private static void chanceOfTheEnd() {
    Check.same("the END without WORDS", new Canticle().chance(0), UNIT);
    chancesAre("the END of 2 WORDS", small(), 90909, 636363, 272727);
    Canticle x = withWords(12);
    teach(x, 1);
    // (1000 + 500) of 1000 + 500 * 13, and 500 of it.
    Check.same("the END of 12 WORDS", x.chance(12), 200000);
    Check.same("the last WORD of 12", x.chance(11), 66666);
  }

  private static void lastWords() {
    Canticle x = withOrder(2, 4);
    x.setWay(1, 1000);
    teach(x, 1, 0, 0, 0, 1);
    x.hush();
    chancesAre("BEGIN BEGIN BEGIN", x, UNIT, 0, 0);
    x.say(0);
    chancesAre("BEGIN BEGIN 0", x, UNIT, 0, 0);
    x.say(0);
    chancesAre("BEGIN 0 0", x, UNIT, 0, 0);
    x.say(0);
    chancesAre("0 0 0", x, 0, UNIT, 0);
    x.say(1);
    chancesAre("0 0 1", x, 0, 0, UNIT);
    speak(x, 1, 1, 1, 1, 1, 1, 1, 1, 1, 0, 0, 0);
    chancesAre("0 0 0, the last of 12", x, 0, UNIT, 0);
    Canticle y = small(2, 1);
    y.setWay(1, 1000);
    chancesAre("of the ORDER 1 behind 0", y, 363636, 272727, 363636);
    y.hush();
    chancesAre("of the ORDER 1 behind none", y, 363636, 272727, 363636);
  }

  private static void noChance() {
    for (int word : of(4, 5, 13, -1, MIN, MAX)) {
      refused(() -> rich(3), "chance(" + word + ")", Check.INDEX, x -> x.chance(word));
    }
    refused(Canticle::new, "chance(1) without WORDS", Check.INDEX, x -> x.chance(1));
    refused(Canticle::new, "chance(-1) without WORDS", Check.INDEX, x -> x.chance(-1));
    refused(() -> rich(12), "chance(13) of 12", Check.INDEX, x -> x.chance(13));
    answered(Canticle::new, "chance(0) without WORDS", UNIT, x -> x.chance(0));
    answered(Scenes::small, "chance(2), the END", 272727, x -> x.chance(2));
    answered(Scenes::small, "chance(0)", 90909, x -> x.chance(0));
  }

  private static void firstAndLastRank() {
    Check.same("the only rank, without WORDS", new Canticle().ranked(0), 0);
    ranksAre("of 2 WORDS", small(), 1, 2, 0);
    Canticle x = withWords(12);
    teach(x, 1, 5);
    Check.same("rank 0: the END", x.ranked(0), 12);
    Check.same("rank 12: the last one of those left", x.ranked(12), 11);
    Check.throwing("rank 13", Check.INDEX, () -> x.ranked(13));
    x.hush();
    Check.same("rank 0: 5", x.ranked(0), 5);
    Check.same("rank 12: the END", x.ranked(12), 12);
  }

  private static void ranksOfTheSame() {
    Canticle x = withWords(12);
    ranksAre("all the same", x, 0, 1, 2, 3, 4, 5, 6, 7, 8, 9, 10, 11, 12);
    teach(x, 1, 11);
    teach(x, 1, 4);
    x.hush();
    ranksAre("two as likely, the others as likely", x, 4, 11, 0, 1, 2, 3, 5, 6, 7, 8, 9, 10, 12);
    Canticle y = sure(3);
    ranksAre("chances of 0", y, 0, 1, 2, 3);
    y.say(0);
    ranksAre("chances of 0 behind the END", y, 3, 0, 1, 2);
  }

  private static void noSuchRank() {
    for (int rank : of(4, 5, 13, -1, MIN, MAX)) {
      refused(() -> rich(3), "ranked(" + rank + ")", Check.INDEX, x -> x.ranked(rank));
    }
    refused(Canticle::new, "ranked(1) without WORDS", Check.INDEX, x -> x.ranked(1));
    answered(Canticle::new, "ranked(0) without WORDS", 0, x -> x.ranked(0));
    answered(Scenes::small, "ranked(2) of 2 WORDS", 0, x -> x.ranked(2));
  }

  // ---- promises 21 to 24

  private static void costOfAnyNumber() {
    for (int chance : of(MIN, -1, 0)) {
      answered(() -> rich(3), "costOf(" + chance + ")", 32768, x -> x.costOf(chance));
    }
    for (int chance : of(UNIT, UNIT + 1, MAX)) {
      answered(() -> rich(3), "costOf(" + chance + ")", 0, x -> x.costOf(chance));
    }
    answered(Canticle::new, "costOf(1) without WORDS", 19456, x -> x.costOf(1));
    answered(Canticle::new, "costOf(999999) without WORDS", 0, x -> x.costOf(999999));
  }

  private static void scoreOf0To12() {
    answered(Canticle::new, "score() without WORDS", 0, Canticle::score);
    // Nothing is learned: 500000 at each place.
    for (int size = 0; size <= 12; size++) {
      Canticle x = withWords(1);
      speakZeros(x, size);
      Check.same("score() of " + size, x.score(), 1024 * (size + 1));
    }
    answered(Scenes::small, "score() of 0", 372 + 1954, Canticle::score);
    Canticle y = sure(1);
    speakZeros(y, 12);
    Check.same("score() of 11 chances of 0", y.score(), 360448);
    y.setWay(0, 1);
    Check.same("score() of 12", y.score(), 112380);
  }

  private static void meanNotCut() {
    Check.holds("without WORDS", new Canticle().meanCost() == 0.0);
    Canticle x = small();
    Check.holds("of 1 WORD", x.meanCost() == 1163.0);
    x.say(1);
    Check.holds("of 2 WORDS", x.meanCost() == 1571.0 / 3);
    Canticle y = sure(1);
    Check.holds("of the END alone", y.meanCost() == 32768.0);
    speakZeros(y, 12);
    Check.holds("of 12 WORDS", y.meanCost() == 360448.0 / 13);
  }

  private static void leastOfAllRows() {
    for (int setting = 0; setting < 80; setting++) {
      int order = 1 + setting % 4;
      Canticle x = small(3, order);
      NaiveModel y = naiveSmall(3, order);
      teach(x, 2, 2, 1, 1, 0);
      y.hush();
      List.of(2, 1, 1, 0).forEach(y::say);
      y.learn(2);
      x.setWay(setting % 5, 900);
      y.setWay(setting % 5, 900);
      // Rows of 0 to 3 more, just up to 12 places too.
      int more = setting / 4 % 4;
      int from = setting % 3 == 0 ? 12 - more : setting % 3;
      speakZeros(x, from);
      y.hush();
      for (int i = 0; i < from; i++) {
        y.say(0);
      }
      List<Integer> best = y.bestOfAll(from + more);
      Check.same("complete(" + (from + more) + ")", x.complete(from + more), y.scoreOf(best));
      row("the best of all", x, best.stream().mapToInt(i -> i).toArray());
      Check.same("complete() of what is complete", x.complete(from + more), x.score());
    }
    Check.same("complete(0) of the empty SENTENCE", sure(1).complete(0), 32768);
  }

  private static NaiveModel naiveSmall(int words, int order) {
    NaiveModel y = new NaiveModel();
    y.v = words;
    y.n = order;
    y.say(0);
    y.say(1);
    y.learn(3);
    y.hush();
    y.say(0);
    y.learn(1);
    return y;
  }

  private static void firstOfTheSame() {
    Canticle even = withOrder(12, 4);
    Check.same("all rows are the same", even.complete(12), 13 * even.costOf(76923));
    row("the smallest one at each place", even, 0, 0, 0, 0, 0, 0, 0, 0, 0, 0, 0, 0);
    speak(even, 11);
    even.complete(3);
    row("what was there stays", even, 11, 0, 0);
    // 0 and 1 behind BEGIN are 250000 and 500000, the END behind them 500000 and 250000.
    Canticle x = withWords(3);
    x.setWay(1, 1000);
    teach(x, 1, 0, 0);
    teach(x, 1, 1, 1, 1, 2);
    teach(x, 1, 1);
    teach(x, 1, 2, 2, 2, 2, 2, 2);
    x.hush();
    Check.same("the likelier first one is not ahead", x.complete(1), 3072);
    row("of 0 and 1 the smaller one", x, 0);
    // 0 1 and 1 0 are the same: the first place tells, not the last one.
    Canticle y = withWords(2);
    y.setWay(1, 1000);
    teach(y, 1, 0, 1);
    teach(y, 1, 1, 0);
    y.hush();
    Check.same("0 1 and 1 0", y.complete(2), 3072);
    row("by the first place", y, 0, 1);
  }

  private static Canticle richWithZeros(int many) {
    Canticle x = rich(3);
    speakZeros(x, many);
    return x;
  }

  private static void noSuchLength() {
    for (int length : of(1, 0, 13, 14, -1, MIN, MAX)) {
      refused(() -> rich(3), "complete(" + length + ") of 2", Check.ARGUMENT,
          x -> x.complete(length));
    }
    refused(() -> richWithZeros(12), "complete(11) of 12", Check.ARGUMENT, x -> x.complete(11));
    refused(() -> richWithZeros(12), "complete(13) of 12", Check.ARGUMENT, x -> x.complete(13));
    refused(() -> richWithZeros(0), "complete(-1) of 0", Check.ARGUMENT, x -> x.complete(-1));
    int score = rich(3).score();
    answered(() -> rich(3), "complete(2) of 2", score, x -> x.complete(2));
    int scoreOf12 = richWithZeros(12).score();
    answered(() -> richWithZeros(12), "complete(12) of 12", scoreOf12, x -> x.complete(12));
    Canticle x = rich(3);
    x.complete(12);
    Check.same("length() behind complete(12)", x.length(), 12);
  }

  private static void noWordToComplete() {
    for (int length : of(0, 1, 12)) {
      refused(Canticle::new, "complete(" + length + ") without WORDS", Check.STATE,
          x -> x.complete(length));
    }
    Check.same("complete(1) with one WORD", withWords(1).complete(1), 2048);
  }
}
