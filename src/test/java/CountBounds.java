/** Bounds of looking at ENTRIES and of pruning them: promises 12 to 17. */
final class CountBounds extends Boundaries {
  private CountBounds() {}

  static void all() {
    promises12To15();
    promises16And17();
  }

  private static void promises12To15() {
    String entries = "Promise 12: entries";
    sentence(entries, "Returns how many ENTRIES of this order there are.",
        CountBounds::noneOfAnOrder);
    sentence(entries, "Throws `IllegalArgumentException` if order is not 1 to the ORDER",
        CountBounds::ordersOfEntries);
    String entryAt = "Promise 13: entryAt";
    sentence(entryAt, "ENTRIES of an order are numbered from 0, by their CONTEXTS (compared by the"
        + " first place at which they differ, BEGIN ahead of all WORDS), then by w.",
        CountBounds::numbering);
    sentence(entryAt, "a place, 0 to n - 1, of its CONTEXT and then its w",
        CountBounds::placesOfAnEntry);
    sentence(entryAt, "Returns what is there: -1 for BEGIN, V for the END.",
        CountBounds::beginAndEnd);
    sentence(entryAt, "Throws `IllegalArgumentException` if order is not 1 to the ORDER",
        CountBounds::ordersOfEntryAt);
    sentence(entryAt, "Throws `IndexOutOfBoundsException` if there is no such ENTRY, or place",
        CountBounds::noSuchEntryOrPlace);
    String countOf = "Promise 14: countOf";
    sentence(countOf, "Returns its COUNT.", CountBounds::leastAndLargeCounts);
    sentence(countOf, "Throws `IllegalArgumentException` if order is not 1 to the ORDER",
        CountBounds::ordersOfCountOf);
    sentence(countOf, "Throws `IndexOutOfBoundsException` if there is no such ENTRY",
        CountBounds::noSuchEntry);
    String ofContext = "Promise 15: ofContext";
    sentence(ofContext, "Of the CONTEXT that is made of the last WORDS of the SENTENCE, order - 1"
        + " of them, with BEGIN where there are none:", CountBounds::contextsWithBegin);
    sentence(ofContext, "0 c(h), 1 t(h), both by COUNTS", CountBounds::byCounts);
    sentence(ofContext, "Throws `IllegalArgumentException` if order is not 1 to the ORDER, or what"
        + " is not 0 or 1", CountBounds::ordersOfContext);
  }

  private static void promises16And17() {
    String prune = "Promise 16: prune";
    sentence(prune, "Prunes: all ENTRIES of an order with a COUNT below some number are gone.",
        CountBounds::belowTheNumber);
    sentence(prune, "Returns how many are gone.", CountBounds::goneByPrune);
    sentence(prune, "Throws `IllegalArgumentException` if order is not 2 to the ORDER, or least is"
        + " not 1 to 1000", CountBounds::cannotPrune);
    String pruneBy = "Promise 17: pruneBy";
    sentence(pruneBy, "differ by less than some parts", CountBounds::lessThanTheParts);
    sentence(pruneBy, "(all chances as they are ahead of that)", CountBounds::chancesAheadOfThat);
    sentence(pruneBy, "Returns how many are gone.", CountBounds::goneByPruneBy);
    sentence(pruneBy, "Throws `IllegalArgumentException` if order is not 2 to the ORDER, or parts"
        + " is not 1 to UNIT", CountBounds::cannotPruneBy);
  }

  // ---- promises 12 to 15

  private static void noneOfAnOrder() {
    Canticle x = withOrder(2, 4);
    for (int n = 1; n <= 4; n++) {
      Check.same("entries(" + n + ") of none", x.entries(n), 0);
    }
    teach(x, 1, 0, 1);
    x.prune(3, 2);
    Check.same("entries(1)", x.entries(1), 3);
    Check.same("entries(2)", x.entries(2), 3);
    Check.same("entries(3) behind prune(3, 2)", x.entries(3), 0);
    Check.same("entries(4)", x.entries(4), 3);
  }

  private static void ordersOfEntries() {
    for (int order : of(0, 4, 5, -1, MIN, MAX)) {
      refused(() -> rich(3), "entries(" + order + ")", Check.ARGUMENT, x -> x.entries(order));
    }
    refused(() -> small(2, 1), "entries(2) of the ORDER 1", Check.ARGUMENT, x -> x.entries(2));
    refused(() -> small(2, 4), "entries(5) of the ORDER 4", Check.ARGUMENT, x -> x.entries(5));
    answered(() -> small(2, 1), "entries(1) of the ORDER 1", 3, x -> x.entries(1));
    answered(() -> small(2, 4), "entries(4) of the ORDER 4", 4, x -> x.entries(4));
  }

  private static void numbering() {
    Canticle x = withOrder(12, 3);
    teach(x, 1, 11, 0);
    teach(x, 2, 0, 11);
    teach(x, 3);
    teach(x, 4, 11);
    entriesAre("by the first place, then by the second, then by w", x, 3,
        of(-1, -1, 0, 2), of(-1, -1, 11, 5), of(-1, -1, 12, 3), of(-1, 0, 11, 2),
        of(-1, 11, 0, 1), of(-1, 11, 12, 4), of(0, 11, 12, 2), of(11, 0, 12, 1));
    entriesAre("BEGIN, 0, 11", x, 2, of(-1, 0, 2), of(-1, 11, 5), of(-1, 12, 3), of(0, 11, 2),
        of(0, 12, 1), of(11, 0, 1), of(11, 12, 6));
    entriesAre("by w alone", x, 1, of(0, 3), of(11, 7), of(12, 10));
  }

  private static void placesOfAnEntry() {
    Canticle x = withOrder(5, 4);
    teach(x, 1, 1, 2, 3);
    entriesAre("w alone", x, 1, of(1, 1), of(2, 1), of(3, 1), of(5, 1));
    for (int n = 2; n <= 4; n++) {
      int last = x.entries(n) - 1;
      for (int place = 0; place < n - 1; place++) {
        Check.same("CONTEXT of order " + n, x.entryAt(n, last, place), 3 - (n - 2) + place);
      }
      Check.same("w of order " + n, x.entryAt(n, last, n - 1), 5);
    }
  }

  private static void beginAndEnd() {
    for (int v = 1; v <= 12; v++) {
      Canticle x = withWords(v);
      teach(x, 1);
      Check.same("BEGIN", x.entryAt(2, 0, 0), -1);
      Check.same("the END of " + v + " WORDS", x.entryAt(2, 0, 1), v);
      Check.same("the END of " + v + " WORDS, alone", x.entryAt(1, 0, 0), v);
    }
  }

  private static void ordersOfEntryAt() {
    for (int order : of(0, 4, 5, -1, MIN, MAX)) {
      refused(() -> rich(3), "entryAt(" + order + ", 0, 0)", Check.ARGUMENT,
          x -> x.entryAt(order, 0, 0));
    }
    refused(() -> small(2, 4), "entryAt(5, 0, 0)", Check.ARGUMENT, x -> x.entryAt(5, 0, 0));
    answered(() -> small(2, 4), "entryAt(4, 0, 0)", -1, x -> x.entryAt(4, 0, 0));
    answered(() -> small(2, 1), "entryAt(1, 0, 0)", 0, x -> x.entryAt(1, 0, 0));
  }

  private static void noSuchEntryOrPlace() {
    for (int entry : of(-1, 4, 5, 800, MIN, MAX)) {
      refused(Scenes::small, "entryAt(2, " + entry + ", 0)", Check.INDEX,
          x -> x.entryAt(2, entry, 0));
    }
    for (int place : of(-1, 2, 3, MIN, MAX)) {
      refused(Scenes::small, "entryAt(2, 0, " + place + ")", Check.INDEX,
          x -> x.entryAt(2, 0, place));
    }
    refused(Scenes::small, "entryAt(1, 3, 0)", Check.INDEX, x -> x.entryAt(1, 3, 0));
    refused(Scenes::small, "entryAt(1, 0, 1)", Check.INDEX, x -> x.entryAt(1, 0, 1));
    refused(() -> withWords(1), "entryAt(1, 0, 0) of none", Check.INDEX, x -> x.entryAt(1, 0, 0));
    answered(Scenes::small, "entryAt(2, 3, 1)", 2, x -> x.entryAt(2, 3, 1));
    answered(Scenes::small, "entryAt(1, 2, 0)", 2, x -> x.entryAt(1, 2, 0));
  }

  private static void leastAndLargeCounts() {
    Canticle x = withOrder(1, 1);
    speakZeros(x, 12);
    x.learn(1);
    entriesAre("learned once", x, 1, of(0, 12), of(1, 1));
    for (int i = 0; i < 400; i++) {
      x.learn(100);
    }
    entriesAre("learned 40001 times", x, 1, of(0, 480012), of(1, 40001));
  }

  private static void ordersOfCountOf() {
    for (int order : of(0, 4, 5, -1, MIN, MAX)) {
      refused(() -> rich(3), "countOf(" + order + ", 0)", Check.ARGUMENT,
          x -> x.countOf(order, 0));
    }
    refused(() -> small(2, 4), "countOf(5, 0)", Check.ARGUMENT, x -> x.countOf(5, 0));
    answered(() -> small(2, 4), "countOf(4, 0)", 4, x -> x.countOf(4, 0));
    answered(() -> small(2, 1), "countOf(1, 0)", 4, x -> x.countOf(1, 0));
  }

  private static void noSuchEntry() {
    for (int entry : of(-1, 4, 5, 800, MIN, MAX)) {
      refused(Scenes::small, "countOf(2, " + entry + ")", Check.INDEX, x -> x.countOf(2, entry));
    }
    refused(Scenes::small, "countOf(1, 3)", Check.INDEX, x -> x.countOf(1, 3));
    refused(() -> withWords(1), "countOf(1, 0) of none", Check.INDEX, x -> x.countOf(1, 0));
    answered(Scenes::small, "countOf(2, 3)", 3, x -> x.countOf(2, 3));
    answered(Scenes::small, "countOf(1, 2)", 4, x -> x.countOf(1, 2));
  }

  private static void contextsWithBegin() {
    Canticle x = withOrder(2, 4);
    teach(x, 2, 0, 1);
    teach(x, 3);
    // None is there: nothing, (BEGIN), (BEGIN BEGIN), (BEGIN BEGIN BEGIN).
    contextsAre(x, of(9, 3), of(5, 2), of(5, 2), of(5, 2));
    x.say(0);
    contextsAre(x, of(9, 3), of(2, 1), of(2, 1), of(2, 1));
    x.say(0);
    contextsAre(x, of(9, 3), of(2, 1), of(0, 0), of(0, 0));
    speak(x, 1, 1, 1, 1, 1, 1, 1, 1, 1, 1, 1, 0);
    contextsAre(x, of(9, 3), of(2, 1), of(0, 0), of(0, 0));
  }

  private static void contextsAre(Canticle x, int[]... due) {
    for (int n = 1; n <= due.length; n++) {
      String what = "behind " + x.length() + " WORDS, order " + n;
      Check.same(what + ", c", x.ofContext(n, 0), due[n - 1][0]);
      Check.same(what + ", t", x.ofContext(n, 1), due[n - 1][1]);
    }
  }

  private static void byCounts() {
    for (int way = 0; way <= 4; way++) {
      Canticle x = small();
      x.setWay(way, 1000);
      contextsAre(x, of(11, 3), of(4, 2));
    }
  }

  private static void ordersOfContext() {
    for (int order : of(0, 4, 5, -1, MIN, MAX)) {
      refused(() -> rich(3), "ofContext(" + order + ", 0)", Check.ARGUMENT,
          x -> x.ofContext(order, 0));
    }
    for (int what : of(-1, 2, MIN, MAX)) {
      refused(() -> rich(3), "ofContext(1, " + what + ")", Check.ARGUMENT,
          x -> x.ofContext(1, what));
    }
    answered(() -> small(2, 1), "ofContext(1, 0)", 11, x -> x.ofContext(1, 0));
    answered(() -> small(2, 4), "ofContext(4, 1)", 2, x -> x.ofContext(4, 1));
    refused(() -> small(2, 4), "ofContext(5, 1)", Check.ARGUMENT, x -> x.ofContext(5, 1));
  }

  // ---- promises 16 and 17

  /** Of COUNTS of 999, 1000, 1001 behind BEGIN, for 0, 1, 2. */
  private static Canticle around1000() {
    Canticle x = withWords(3);
    for (int w = 0; w < 3; w++) {
      speak(x, w);
      for (int i = 0; i < 9; i++) {
        x.learn(100);
      }
      x.learn(99 + w > 100 ? 100 : 99 + w);
    }
    x.learn(1);
    return x;
  }

  private static void belowTheNumber() {
    Canticle x = around1000();
    Check.same("999 is below 1000: (BEGIN 0) and (0 END)", x.prune(2, 1000), 2);
    entriesAre("1000 is not", x, 2, of(-1, 1, 1000), of(-1, 2, 1001), of(1, 3, 1000),
        of(2, 3, 1001));
    entriesAre("another order", x, 1, of(0, 999), of(1, 1000), of(2, 1001), of(3, 3000));
    Canticle y = small();
    Check.same("none is below 1", y.prune(2, 1), 0);
    Check.same("1 is below 2", y.prune(2, 2), 1);
    Check.same("3 is not below 3", y.prune(2, 3), 0);
    Check.same("3 is below 4, 4 is not", y.prune(2, 4), 2);
    entriesAre("left", y, 2, of(-1, 0, 4));
  }

  private static void goneByPrune() {
    Canticle x = withOrder(2, 4);
    Check.same("prune(2, 1000) of none", x.prune(2, 1000), 0);
    teach(x, 1, 0, 1);
    Check.same("prune(4, 1000) of all", x.prune(4, 1000), 3);
    Check.same("prune(4, 1000) again", x.prune(4, 1000), 0);
    Check.same("prune(2, 2)", x.prune(2, 2), 3);
    Check.same("entries(1)", x.entries(1), 3);
    Check.same("entries(3)", x.entries(3), 3);
  }

  private static void cannotPrune() {
    for (int order : of(1, 0, 4, 5, -1, MIN, MAX)) {
      refused(() -> rich(3), "prune(" + order + ", 1000)", Check.ARGUMENT,
          x -> x.prune(order, 1000));
    }
    for (int least : of(0, 1001, -1, MIN, MAX)) {
      refused(() -> rich(3), "prune(2, " + least + ")", Check.ARGUMENT, x -> x.prune(2, least));
    }
    refused(() -> small(2, 1), "prune(2, 2) of the ORDER 1", Check.ARGUMENT, x -> x.prune(2, 2));
    refused(() -> small(2, 1), "prune(1, 2) of the ORDER 1", Check.ARGUMENT, x -> x.prune(1, 2));
    answered(() -> rich(3), "prune(2, 1)", 0, x -> x.prune(2, 1));
    answered(() -> rich(3), "prune(3, 1)", 0, x -> x.prune(3, 1));
    Check.same("prune(4, 1000) of the ORDER 4", small(2, 4).prune(4, 1000), 4);
  }

  private static void lessThanTheParts() {
    // (0 END) and (END) are 272727 and 360000: the longer one is the smaller one.
    Check.same("pruneBy(2, 87273)", small().pruneBy(2, 87273), 0);
    Check.same("pruneBy(2, 87274)", small().pruneBy(2, 87274), 1);
    // (0 1) and (1) are 636363 and 280000.
    Check.same("pruneBy(2, 356363)", small().pruneBy(2, 356363), 1);
    Check.same("pruneBy(2, 356364)", small().pruneBy(2, 356364), 2);
    Canticle x = withWords(1);
    x.setWay(3, 1000);
    teach(x, 1, 0);
    Check.same("pruneBy(2, 1) of chances that are the same", x.pruneBy(2, 1), 2);
    Canticle y = farApart();
    Check.same("pruneBy(3, UNIT) but where they are UNIT apart", y.pruneBy(3, UNIT), 5);
    entriesAre("UNIT apart", y, 3, of(-1, 0, 1, 1), of(0, 1, 2, 1));
  }

  /** (BEGIN 0 1) and (0 1 END) are sure, but (0 1) and (1 END) were pruned. */
  private static Canticle farApart() {
    Canticle x = withOrder(2, 3);
    x.setWay(1, 1000);
    teach(x, 1, 0, 1);
    teach(x, 5, 1, 0, 0);
    x.prune(2, 2);
    speak(x, 0);
    chancesAre("far apart, BEGIN 0", x, 0, UNIT, 0);
    speak(x, 0, 0);
    return x;
  }

  private static void chancesAheadOfThat() {
    // Chances of (BEGIN 0), (0 1), (0 END), (1 END) less those of (0), (1), (END), (END):
    // 906249 - 249999, 687499 - 249999, 249999 - 499999, 916666 - 499999.
    int[][] due = {
      {250000, 0}, {250001, 1}, {416667, 1}, {416668, 2}, {430000, 2}, {437500, 2}, {437501, 3},
      {450000, 3}, {656250, 3}, {656251, 4}
    };
    for (int[] pair : due) {
      Canticle x = small();
      x.setWay(4, 500);
      Check.same("pruneBy(2, " + pair[0] + ") by VARIED", x.pruneBy(2, pair[0]), pair[1]);
      Check.same("entries(2) behind it", x.entries(2), 4 - pair[1]);
    }
  }

  private static void goneByPruneBy() {
    Canticle x = withOrder(2, 4);
    Check.same("pruneBy(2, UNIT) of none", x.pruneBy(2, UNIT), 0);
    teach(x, 1, 0, 1);
    Check.same("pruneBy(4, UNIT) of all", x.pruneBy(4, UNIT), 3);
    Check.same("pruneBy(4, UNIT) again", x.pruneBy(4, UNIT), 0);
    Check.same("entries(3)", x.entries(3), 3);
    Check.same("pruneBy(2, UNIT)", x.pruneBy(2, UNIT), 3);
    Check.same("entries(1)", x.entries(1), 3);
  }

  private static void cannotPruneBy() {
    for (int order : of(1, 0, 4, 5, -1, MIN, MAX)) {
      refused(() -> rich(3), "pruneBy(" + order + ", UNIT)", Check.ARGUMENT,
          x -> x.pruneBy(order, UNIT));
    }
    for (int parts : of(0, UNIT + 1, -1, MIN, MAX)) {
      refused(() -> rich(3), "pruneBy(2, " + parts + ")", Check.ARGUMENT,
          x -> x.pruneBy(2, parts));
    }
    refused(() -> small(2, 1), "pruneBy(2, 2) of the ORDER 1", Check.ARGUMENT,
        x -> x.pruneBy(2, 2));
    answered(Scenes::small, "pruneBy(2, 1)", 0, x -> x.pruneBy(2, 1));
    Check.same("pruneBy(3, UNIT)", rich(3).pruneBy(3, UNIT), rich(3).entries(3));
    Check.same("pruneBy(4, UNIT) of the ORDER 4", small(2, 4).pruneBy(4, UNIT), 4);
  }
}
