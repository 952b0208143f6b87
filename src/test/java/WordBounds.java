/** Bounds of WORDS, SENTENCES and ENTRIES: the first head of the terms, and promises 1 to 11. */
final class WordBounds extends Boundaries {
  private static final String TERMS = "Terms";

  private WordBounds() {}

  static void all() {
    terms();
    promises1To5();
    promises6To11();
  }

  private static void terms() {
    sentence(TERMS, "There are WORDS, at most 12, numbered from 0; behind them, with the number of"
        + " words there are, V, comes the END; and there is a BEGIN, which is told as -1.",
        WordBounds::wordsEndAndBegin);
    sentence(TERMS, "The SENTENCE is a row of up to 12 WORDS (none, at first).",
        WordBounds::sentenceOf12);
    sentence(TERMS, "The ORDER is N, 1 to 4 (2, at first).", WordBounds::orders);
    sentence(TERMS, "A CONTEXT is a row of at most N - 1 of BEGIN and WORDS.",
        WordBounds::longestContext);
    sentence(TERMS, "An ENTRY of the order n, 1 to N, is a CONTEXT h of n - 1, and a WORD or the"
        + " END, w, with a COUNT c(h, w), above 0.", WordBounds::countsAbove0);
    sentence(TERMS, "At most 800 ENTRIES.", WordBounds::entriesUpTo800);
    sentence(TERMS, "for each n from 1 to N, and each place of the SENTENCE, and that behind it,"
        + " with w the WORD there (or the END), and h the n - 1 ahead of it, with BEGIN where there"
        + " are none. ENTRIES", WordBounds::learnedPlaces);
    sentence(TERMS, "ENTRIES that are not there yet are made, n by n, of each place by place.",
        WordBounds::madeWhereNotThere);
    sentence(TERMS, "c(h) is the sum of c(h, w) over all w; t(h) is how many w there are with an"
        + " ENTRY (h, w).", WordBounds::contextOfNoneAndOfAll);
  }

  private static void promises1To5() {
    sentence("Promise 1: A new object", "Creates a model without words.", WordBounds::newObject);
    String addWord = "Promise 2: addWord";
    sentence(addWord, "All ENTRIES are gone then, and the SENTENCE is empty.",
        WordBounds::goneByAddWord);
    sentence(addWord, "Returns its number.", WordBounds::numbersOfWords);
    sentence(addWord, "Throws `IllegalStateException` if there are 12", WordBounds::word13);
    String setOrder = "Promise 3: setOrder";
    sentence(setOrder, "All ENTRIES are gone then.", WordBounds::goneBySetOrder);
    sentence(setOrder, "Returns the one before.", WordBounds::orderBefore);
    sentence(setOrder, "Throws `IllegalArgumentException` if order is not 1 to 4",
        WordBounds::noSuchOrder);
    String say = "Promise 4: say";
    sentence(say, "Returns how many WORDS it has then.", WordBounds::said1To12);
    sentence(say, "Throws `IndexOutOfBoundsException` if there is no such WORD",
        WordBounds::noSuchWordToSay);
    sentence(say, "Throws `IllegalStateException` if it has 12", WordBounds::sayBehind12);
    String hush = "Promise 5: hush";
    sentence(hush, "Empties the SENTENCE.", WordBounds::emptied);
    sentence(hush, "Returns how many WORDS it had.", WordBounds::had0To12);
  }

  private static void promises6To11() {
    String learn = "Promise 6: learn";
    sentence(learn, "Learns the SENTENCE, which stays.", WordBounds::staysBehindLearn);
    sentence(learn, "Returns how many ENTRIES there are then.", WordBounds::entriesThen);
    sentence(learn, "Throws `IllegalArgumentException` if times is not 1 to 100",
        WordBounds::timesToLearn);
    sentence(learn, "Throws `IllegalStateException` if there is no WORD, or there would be more"
        + " than 800 ENTRIES", WordBounds::cannotLearn);
    String unlearn = "Promise 7: unlearn";
    sentence(unlearn, "Unlearns the SENTENCE once: from each ENTRY to which learning it once would"
        + " add, as much is taken; those that have 0 then are gone.", WordBounds::unlearnedTo0);
    sentence(unlearn, "Returns how many ENTRIES are gone.", WordBounds::goneByUnlearn);
    sentence(unlearn, "Throws `IllegalStateException` if one of these ENTRIES has less than would"
        + " be taken, or is not there", WordBounds::cannotUnlearn);
    sentence("Promise 8: words", "Returns V.", WordBounds::v0To12);
    sentence("Promise 9: order", "Returns the ORDER.", WordBounds::order1To4);
    sentence("Promise 10: length", "Returns how many WORDS the SENTENCE has.",
        WordBounds::length0To12);
    String wordAt = "Promise 11: wordAt";
    sentence(wordAt, "Returns the WORD of the SENTENCE there.", WordBounds::firstAndLastPlace);
    sentence(wordAt, "Throws `IndexOutOfBoundsException` if there is no such place",
        WordBounds::noSuchPlace);
  }

  // ---- Terms

  private static void wordsEndAndBegin() {
    Canticle x = new Canticle();
    Check.same("chance(0), the END without WORDS", x.chance(0), UNIT);
    Check.throwing("chance(1) without WORDS", Check.INDEX, () -> x.chance(1));
    for (int w = 0; w < 12; w++) {
      Check.same("addWord()", x.addWord(), w);
    }
    Check.throwing("the 13th WORD", Check.STATE, x::addWord);
    teach(x, 1, 11);
    entriesAre("the last WORD and the END", x, 1, of(11, 1), of(12, 1));
    entriesAre("BEGIN, the last WORD and the END", x, 2, of(-1, 11, 1), of(11, 12, 1));
    // ADDED behind 11: 1500 of 1000 + 500 * 13.
    Check.same("chance(12), the END", x.chance(12), 200000);
    Check.throwing("chance(13)", Check.INDEX, () -> x.chance(13));
    Canticle one = withWords(1);
    teach(one, 1);
    entriesAre("with one WORD the END is 1", one, 2, of(-1, 1, 1));
  }

  private static void sentenceOf12() {
    Canticle x = withWords(1);
    Check.same("length() at first", x.length(), 0);
    for (int i = 1; i <= 12; i++) {
      Check.same("say(0)", x.say(0), i);
    }
    Check.throwing("say(0) behind 12", Check.STATE, () -> x.say(0));
    row("all 12", x, 0, 0, 0, 0, 0, 0, 0, 0, 0, 0, 0, 0);
  }

  private static void orders() {
    Canticle x = withWords(1);
    Check.same("order() at first", x.order(), 2);
    Check.same("learn(1) by the ORDER 2", x.learn(1), 2);
    x.setOrder(1);
    Check.same("learn(1) by the ORDER 1", x.learn(1), 1);
    x.setOrder(4);
    Check.same("learn(1) by the ORDER 4", x.learn(1), 4);
    Check.throwing("setOrder(0)", Check.ARGUMENT, () -> x.setOrder(0));
    Check.throwing("setOrder(5)", Check.ARGUMENT, () -> x.setOrder(5));
    Check.same("order() behind that", x.order(), 4);
  }

  private static void longestContext() {
    for (int order = 1; order <= 4; order++) {
      Canticle x = withOrder(1, order);
      teach(x, 1);
      int n = order;
      for (int place = 0; place < n - 1; place++) {
        Check.same("CONTEXT of the ORDER " + n, x.entryAt(n, 0, place), -1);
      }
      Check.same("w behind the CONTEXT of the ORDER " + n, x.entryAt(n, 0, n - 1), 1);
      Check.throwing("place " + n + " of the ORDER " + n, Check.INDEX, () -> x.entryAt(n, 0, n));
      Check.throwing("a longer CONTEXT", Check.ARGUMENT, () -> x.entryAt(n + 1, 0, 0));
    }
  }

  private static void countsAbove0() {
    Canticle x = withWords(1);
    teach(x, 1, 0);
    entriesAre("learned once", x, 1, of(0, 1), of(1, 1));
    x.unlearn();
    Check.same("none is left with 0, order 1", x.entries(1), 0);
    Check.same("none is left with 0, order 2", x.entries(2), 0);
    x.learn(2);
    x.unlearn();
    entriesAre("1 is left of 2", x, 1, of(0, 1), of(1, 1));
    entriesAre("1 is left of 2", x, 2, of(-1, 0, 1), of(0, 1, 1));
  }

  private static void entriesUpTo800() {
    Canticle x = full();
    Check.same("just 800", entriesInAll(x), 800);
    speak(x, 1, 4);
    Check.throwing("learn(1) of the 801st", Check.STATE, () -> x.learn(1));
    Check.same("800 are left", entriesInAll(x), 800);
    speak(x, 11, 0, 1, 9, 8, 6, 0, 3, 11, 9, 5);
    Check.same("two go", x.unlearn(), 2);
    speak(x, 1, 4);
    Check.same("learn(1) of the 799th", x.learn(1), 799);
    speak(x, 5, 8);
    Check.same("learn(1) of the 800th", x.learn(1), 800);
    speak(x, 4, 7);
    Check.throwing("learn(1) of the 801st again", Check.STATE, () -> x.learn(1));
  }

  private static void learnedPlaces() {
    Canticle x = withOrder(1, 4);
    teach(x, 3);
    entriesAre("none ahead, the END alone", x, 1, of(1, 3));
    entriesAre("none ahead, the END alone", x, 2, of(-1, 1, 3));
    entriesAre("none ahead, the END alone", x, 3, of(-1, -1, 1, 3));
    entriesAre("none ahead, the END alone", x, 4, of(-1, -1, -1, 1, 3));
    x.setOrder(4);
    teach(x, 1, 0);
    entriesAre("one ahead", x, 4, of(-1, -1, -1, 0, 1), of(-1, -1, 0, 1, 1));
    x.setOrder(4);
    speakZeros(x, 12);
    Check.same("learn(100) of 12 WORDS", x.learn(100), 2 + 3 + 4 + 5);
    entriesAre("12 places and that behind", x, 1, of(0, 1200), of(1, 100));
    entriesAre("12 places and that behind", x, 4, of(-1, -1, -1, 0, 100), of(-1, -1, 0, 0, 100),
        of(-1, 0, 0, 0, 100), of(0, 0, 0, 0, 900), of(0, 0, 0, 1, 100));
    x.setOrder(1);
    x.learn(1);
    entriesAre("n up to 1 alone", x, 1, of(0, 12), of(1, 1));
  }

  private static void madeWhereNotThere() {
    Canticle x = withWords(2);
    teach(x, 1, 0);
    Check.same("the same again makes none", x.learn(1), 4);
    speak(x, 0, 1);
    Check.same("1, (0 1) and (1 END) are made", x.learn(1), 7);
    entriesAre("those that were there are added to", x, 2,
        of(-1, 0, 3), of(0, 1, 1), of(0, 2, 2), of(1, 2, 1));
  }

  private static void contextOfNoneAndOfAll() {
    Canticle x = withWords(12);
    x.say(11);
    for (int n = 1; n <= 2; n++) {
      Check.same("c of a CONTEXT that is not there", x.ofContext(n, 0), 0);
      Check.same("t of a CONTEXT that is not there", x.ofContext(n, 1), 0);
    }
    for (int w = 0; w < 12; w++) {
      teach(x, w + 1, w);
    }
    teach(x, 100);
    Check.same("c of (BEGIN) with all w", x.ofContext(2, 0), 12 * 13 / 2 + 100);
    Check.same("t of (BEGIN) with all w", x.ofContext(2, 1), 13);
    Check.same("c of nothing with all w", x.ofContext(1, 0), 2 * 12 * 13 / 2 + 100);
    Check.same("t of nothing with all w", x.ofContext(1, 1), 13);
    speak(x, 11);
    Check.same("c of (11) with the END alone", x.ofContext(2, 0), 12);
    Check.same("t of (11) with the END alone", x.ofContext(2, 1), 1);
  }

  // ---- promises 1 to 5

  private static void newObject() {
    Canticle x = new Canticle();
    Check.same("words()", x.words(), 0);
    Check.throwing("say(0)", Check.INDEX, () -> x.say(0));
    Check.same("addWord()", x.addWord(), 0);
    Check.same("words() of the next one", new Canticle().words(), 0);
  }

  private static void goneByAddWord() {
    for (int order = 1; order <= 4; order++) {
      Canticle x = small(11, order);
      x.setWay(4, 500);
      Check.same("addWord() of the 12th", x.addWord(), 11);
      Check.same("ENTRIES of all orders", entriesInAll(x), 0);
      Check.same("length()", x.length(), 0);
      // Nothing is left of what VARIED counts either.
      chancesAre("behind addWord()", x, 76923, 76923, 76923);
      x.say(0);
      chancesAre("behind addWord() and 0", x, 76923, 76923, 76923);
    }
    Canticle empty = new Canticle();
    empty.addWord();
    Check.same("addWord() without ENTRIES", entriesInAll(empty), 0);
    Check.same("addWord() without a SENTENCE", empty.length(), 0);
  }

  private static void numbersOfWords() {
    Canticle x = new Canticle();
    for (int w = 0; w < 12; w++) {
      Check.same("addWord()", x.addWord(), w);
    }
  }

  private static void word13() {
    refused(() -> rich(12), "addWord() of the 13th", Check.STATE, Canticle::addWord);
    Check.same("addWord() of the 12th", rich(11).addWord(), 11);
  }

  private static void goneBySetOrder() {
    for (int before = 1; before <= 4; before++) {
      for (int order = 1; order <= 4; order++) {
        Canticle x = small(3, before);
        x.setWay(4, 500);
        x.setOrder(order);
        Check.same("ENTRIES from " + before + " to " + order, entriesInAll(x), 0);
        row("the SENTENCE is not", x, 0);
        chancesAre("from " + before + " to " + order, x, 250000, 250000, 250000, 250000);
        x.setOrder(4);
        Check.same("none come back", entriesInAll(x), 0);
      }
    }
  }

  private static void orderBefore() {
    Canticle x = new Canticle();
    Check.same("setOrder(4) first", x.setOrder(4), 2);
    Check.same("setOrder(4) again", x.setOrder(4), 4);
    Check.same("setOrder(1)", x.setOrder(1), 4);
    Check.same("setOrder(3)", x.setOrder(3), 1);
    Check.same("setOrder(2)", x.setOrder(2), 3);
  }

  private static void noSuchOrder() {
    for (int order : of(0, 5, -1, MIN, MAX)) {
      refused(() -> rich(3), "setOrder(" + order + ")", Check.ARGUMENT, x -> x.setOrder(order));
    }
    Check.same("setOrder(1)", rich(3).setOrder(1), 3);
    Check.same("setOrder(4)", rich(3).setOrder(4), 3);
  }

  private static void said1To12() {
    Canticle x = withWords(12);
    for (int w = 0; w < 12; w++) {
      Check.same("say(" + w + ")", x.say(w), w + 1);
    }
  }

  private static void noSuchWordToSay() {
    for (int word : of(3, 4, -1, MIN, MAX)) {
      refused(() -> rich(3), "say(" + word + ")", Check.INDEX, x -> x.say(word));
    }
    refused(Canticle::new, "say(0) without WORDS", Check.INDEX, x -> x.say(0));
    refused(() -> rich(12), "say(12) of 12", Check.INDEX, x -> x.say(12));
    Check.same("say(0)", rich(3).say(0), 3);
    Check.same("say(2)", rich(3).say(2), 3);
    Check.same("say(11) of 12", rich(12).say(11), 3);
  }

  private static Canticle richWithZeros(int many) {
    Canticle x = rich(3);
    speakZeros(x, many);
    return x;
  }

  private static void sayBehind12() {
    refused(() -> richWithZeros(12), "say(0) behind 12", Check.STATE, x -> x.say(0));
    refused(() -> richWithZeros(12), "say(2) behind 12", Check.STATE, x -> x.say(2));
    Check.same("say(2) behind 11", richWithZeros(11).say(2), 12);
  }

  private static void emptied() {
    for (int size : of(0, 1, 12)) {
      Canticle x = richWithZeros(size);
      x.hush();
      Check.same("length() behind hush() of " + size, x.length(), 0);
      Check.throwing("wordAt(0) behind hush() of " + size, Check.INDEX, () -> x.wordAt(0));
      Check.same("say(2) behind hush() of " + size, x.say(2), 1);
    }
  }

  private static void had0To12() {
    for (int size = 0; size <= 12; size++) {
      Canticle x = richWithZeros(size);
      Check.same("hush()", x.hush(), size);
      Check.same("hush() again", x.hush(), 0);
    }
  }

  // ---- promises 6 to 11

  private static void staysBehindLearn() {
    Canticle x = withWords(2);
    x.learn(1);
    Check.same("length() of the empty one", x.length(), 0);
    speak(x, 1, 0, 1, 0, 1, 0, 1, 0, 1, 0, 1, 1);
    x.learn(100);
    row("the SENTENCE of 12", x, 1, 0, 1, 0, 1, 0, 1, 0, 1, 0, 1, 1);
  }

  private static void entriesThen() {
    Canticle x = withOrder(1, 1);
    Check.same("one ENTRY", x.learn(1), 1);
    Check.same("one ENTRY still", x.learn(1), 1);
    x.say(0);
    Check.same("of all orders, 1", x.learn(1), 2);
    x.setOrder(3);
    Check.same("of all orders, 1 to 3", x.learn(1), 6);
    Check.same("800", full().learn(1), 800);
  }

  private static void timesToLearn() {
    for (int times : of(0, 101, -1, MIN, MAX)) {
      refused(() -> rich(3), "learn(" + times + ")", Check.ARGUMENT, x -> x.learn(times));
    }
    Canticle x = withOrder(1, 1);
    x.learn(1);
    Check.same("COUNT behind learn(1)", x.countOf(1, 0), 1);
    x.learn(100);
    Check.same("COUNT behind learn(100)", x.countOf(1, 0), 101);
  }

  private static Canticle fullWith(int... words) {
    Canticle x = full();
    speak(x, words);
    return x;
  }

  private static void cannotLearn() {
    refused(Canticle::new, "learn(1) without WORDS", Check.STATE, x -> x.learn(1));
    refused(Canticle::new, "learn(100) without WORDS", Check.STATE, x -> x.learn(100));
    Check.same("learn(1) of an empty SENTENCE, with a WORD", withWords(1).learn(1), 2);
    refused(() -> fullWith(1, 4), "learn(1) of the 801st", Check.STATE, x -> x.learn(1));
    refused(() -> fullWith(1, 4), "learn(100) of the 801st", Check.STATE, x -> x.learn(100));
    refused(() -> fullWith(0, 0, 1, 1, 3, 3, 4, 4, 6, 6, 8, 8), "learn(1) of many more than 800",
        Check.STATE, x -> x.learn(1));
    Check.same("learn(100) of what is there", fullWith(2, 7, 9, 6).learn(100), 800);
  }

  private static void unlearnedTo0() {
    Canticle x = withWords(1);
    teach(x, 1, 0, 0, 0);
    teach(x, 1, 0);
    speak(x, 0, 0, 0);
    Check.same("unlearn()", x.unlearn(), 1);
    entriesAre("3 are taken from 4, 1 from 2", x, 1, of(0, 1), of(1, 1));
    entriesAre("2 are taken from 2, 1 from 2", x, 2, of(-1, 0, 1), of(0, 1, 1));
    row("the SENTENCE stays", x, 0, 0, 0);
    x.hush();
    x.learn(1);
    Check.same("unlearn() of the empty SENTENCE", x.unlearn(), 1);
    entriesAre("of the END 1 is left", x, 1, of(0, 1), of(1, 1));
    speakZeros(x, 12);
    x.setOrder(4);
    x.learn(1);
    Check.same("unlearn() of 12 WORDS", x.unlearn(), 14);
    Check.same("ENTRIES behind it", entriesInAll(x), 0);
    x.setWay(4, 1);
    x.hush();
    chancesAre("VARIED counts none of them", x, 500000, 500000);
  }

  private static void goneByUnlearn() {
    Canticle x = withWords(2);
    teach(x, 2, 0, 1);
    Check.same("none", x.unlearn(), 0);
    teach(x, 1, 0);
    speak(x, 0, 1);
    Check.same("1, (0 1) and (1 END)", x.unlearn(), 3);
    speak(x, 0);
    Check.same("all that are left", x.unlearn(), 4);
    Check.same("ENTRIES", entriesInAll(x), 0);
  }

  private static Canticle taughtZeros(int taught, int said) {
    Canticle x = withWords(2);
    speakZeros(x, taught);
    x.learn(1);
    teach(x, 5, 1);
    teach(x, 3, 0);
    speakZeros(x, said);
    return x;
  }

  private static void cannotUnlearn() {
    refused(Canticle::new, "unlearn() without WORDS", Check.STATE, Canticle::unlearn);
    refused(() -> withWords(1), "unlearn() of nothing", Check.STATE, Canticle::unlearn);
    // (0 0) is there twice; "0 0 0" takes two, "0 0 0 0" three of them.
    Check.same("just as much as would be taken", taughtZeros(3, 3).unlearn(), 1);
    refused(() -> taughtZeros(3, 4), "one less than would be taken", Check.STATE,
        Canticle::unlearn);
    refused(() -> taughtZeros(1, 2), "(0 0) is not there", Check.STATE, Canticle::unlearn);
    refused(() -> taughtZeros(1, 0), "(BEGIN END) is not there", Check.STATE, Canticle::unlearn);
    refused(WordBounds::prunedSmall, "(0 END) was pruned", Check.STATE, Canticle::unlearn);
    for (int n = 1; n <= 4; n++) {
      int order = n;
      refused(() -> unlike(order, 1), "1 is not there, the ORDER " + n, Check.STATE,
          Canticle::unlearn);
      refused(() -> unlike(order, 0, 0), "0 is there once, the ORDER " + n, Check.STATE,
          Canticle::unlearn);
      Check.same("just what was learned, the ORDER " + n, unlike(n, 0).unlearn(), 2 * n);
    }
  }

  private static Canticle prunedSmall() {
    Canticle x = small();
    x.prune(2, 2);
    return x;
  }

  /** "0" was learned once, and something is said. */
  private static Canticle unlike(int order, int... words) {
    Canticle x = withOrder(2, order);
    teach(x, 1, 0);
    speak(x, words);
    return x;
  }

  private static void v0To12() {
    Canticle x = new Canticle();
    for (int v = 0; v <= 12; v++) {
      Check.same("words()", x.words(), v);
      if (v < 12) {
        x.addWord();
      }
    }
  }

  private static void order1To4() {
    Canticle x = new Canticle();
    for (int order = 1; order <= 4; order++) {
      x.setOrder(order);
      Check.same("order()", x.order(), order);
    }
  }

  private static void length0To12() {
    Canticle x = withWords(1);
    for (int size = 0; size <= 12; size++) {
      Check.same("length()", x.length(), size);
      if (size < 12) {
        x.say(0);
      }
    }
  }

  private static void firstAndLastPlace() {
    Canticle x = withWords(12);
    speak(x, 11, 1, 2, 3, 4, 5, 6, 7, 8, 9, 10, 0);
    Check.same("wordAt(0)", x.wordAt(0), 11);
    Check.same("wordAt(1)", x.wordAt(1), 1);
    Check.same("wordAt(11)", x.wordAt(11), 0);
  }

  private static void noSuchPlace() {
    for (int place : of(-1, 2, 3, 12, MIN, MAX)) {
      refused(() -> rich(3), "wordAt(" + place + ") of 2", Check.INDEX, x -> x.wordAt(place));
    }
    refused(() -> richWithZeros(0), "wordAt(0) of none", Check.INDEX, x -> x.wordAt(0));
    refused(() -> richWithZeros(12), "wordAt(12) of 12", Check.INDEX, x -> x.wordAt(12));
    answered(() -> rich(3), "wordAt(1) of 2", 1, x -> x.wordAt(1));
    answered(() -> richWithZeros(12), "wordAt(11) of 12", 0, x -> x.wordAt(11));
  }
}
