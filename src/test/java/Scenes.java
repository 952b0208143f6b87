/** What the tests share: models in some state, and looks at what a model holds. */
abstract class Scenes {
  static final int MIN = Integer.MIN_VALUE;
  static final int MAX = Integer.MAX_VALUE;
  static final int UNIT = 1000000;

  // Learned by the ORDER 4 these make just 800 ENTRIES, the last one 2 of them.
  private static final int[][] FILLING = {
    {9, 4, 11, 5, 11, 11, 10, 8, 0, 7, 3, 10},
    {0, 2, 1, 5, 7, 3, 6, 8, 1, 9, 3, 0},
    {11, 3, 6, 4, 2, 6, 2, 1, 2, 9, 9, 7},
    {2, 2, 0, 0, 3, 3, 2, 2, 4, 5, 3, 8},
    {10, 10, 3, 2, 11, 3, 6, 4, 0, 5, 6, 2},
    {2, 4, 1, 5, 4, 9, 9, 0, 9, 10, 11, 5},
    {1, 4, 5, 4, 7, 11, 5, 2, 7, 7, 11, 2},
    {0, 4, 0, 11, 5, 6, 0, 8, 6, 5, 6, 9},
    {0, 7, 0, 11, 2, 9, 3, 1, 3, 7, 5, 8},
    {5, 8, 4, 7, 1, 9, 11, 5, 4, 0, 6, 1},
    {3, 5, 8, 9, 5, 2, 5, 4, 11, 8, 1, 4},
    {10, 5, 4, 2, 1, 10, 2, 11, 11, 4, 7, 2},
    {11, 0, 1, 9, 8, 6, 0, 3, 11, 9, 5, 4},
    {7, 10, 6, 2, 0, 10, 0, 7, 5, 3, 2, 11},
    {9, 2, 10, 6, 1, 2, 6, 5, 2, 0, 6, 4},
    {2, 7, 9, 2, 8, 7, 7, 11, 11, 5, 7, 4},
    {4, 7, 6, 2, 1, 6, 8, 2, 10, 7, 5, 2},
    {1, 7, 4, 8, 8, 8, 5, 1, 5, 11, 9, 10},
    {0, 4, 5, 8, 11, 10, 4, 7, 4, 11, 11, 4},
    {5, 10, 2, 9, 0, 7, 8, 4, 5, 10, 4, 7},
    {4, 8, 10, 10, 5, 5, 4, 10, 5, 11, 6, 5},
    {2, 11, 7, 5, 5, 8, 2, 8, 2, 3, 5, 7},
    {4, 11, 1, 11, 10, 11, 6, 2, 9, 9, 8, 10},
    {6, 4, 9, 8, 10, 4, 11, 0, 3, 2, 9, 7},
    {9, 10, 2, 3, 10, 2, 10, 11, 0, 7, 3, 2},
    {2, 7, 9, 6},
    {4, 8, 10, 10, 5, 5, 4, 3},
    {10, 10, 3, 2, 11, 3, 6, 4, 0, 5, 6, 7},
    {10, 5, 4, 4},
    {10, 10, 3, 2, 11, 3, 6, 4, 0, 5, 6, 3},
    {10, 10, 3, 2, 11, 3, 6, 4, 0, 5, 6, 6},
    {11, 0, 1, 9, 8, 6, 0, 3, 11, 9, 5}
  };

  static Canticle withWords(int many) {
    Canticle x = new Canticle();
    for (int i = 0; i < many; i++) {
      x.addWord();
    }
    return x;
  }

  static Canticle withOrder(int words, int order) {
    Canticle x = withWords(words);
    x.setOrder(order);
    return x;
  }

  static void speak(Canticle x, int... words) {
    x.hush();
    for (int w : words) {
      x.say(w);
    }
  }

  static void teach(Canticle x, int times, int... words) {
    speak(x, words);
    x.learn(times);
  }

  /** The SENTENCE becomes so many times the WORD 0. */
  static void speakZeros(Canticle x, int many) {
    x.hush();
    for (int i = 0; i < many; i++) {
      x.say(0);
    }
  }

  /** "0 1" learned 3 times and "0" once, of the WORDS 0 and 1; the SENTENCE is "0". */
  static Canticle small() {
    return small(2, 2);
  }

  static Canticle small(int words, int order) {
    Canticle x = withOrder(words, order);
    teach(x, 3, 0, 1);
    teach(x, 1, 0);
    return x;
  }

  /** Only "0" was learned, once, and it is behind BEGIN for sure; the SENTENCE is empty. */
  static Canticle sure(int words) {
    Canticle x = withWords(words);
    x.setWay(1, 1000);
    teach(x, 1, 0);
    x.hush();
    return x;
  }

  /** 800 ENTRIES, by 440 calls; learning the SENTENCE "1 4" would make one more. */
  static Canticle full() {
    Canticle x = withOrder(12, 4);
    for (int[] row : FILLING) {
      teach(x, 1, row);
    }
    return x;
  }

  static int entriesInAll(Canticle x) {
    int sum = 0;
    for (int n = 1; n <= x.order(); n++) {
      sum += x.entries(n);
    }
    return sum;
  }

  /** Nothing is as in a new object, so that a change of anything can be seen. */
  static Canticle rich(int words) {
    Canticle x = withOrder(words, 3);
    teach(x, 5, 0, 1, 2);
    teach(x, 2, 1, 0, 2);
    teach(x, 1, 2);
    x.addStep(0, 0);
    x.runScript();
    x.clearScript();
    x.addStep(1, 0);
    speak(x, 0, 1, 2);
    x.runScript();
    x.clearScript();
    x.addStep(0, 0);
    x.addStep(3, 2);
    x.addStep(5, 2);
    x.setLuck(1234);
    x.setWay(4, 300);
    speak(x, 0, 1);
    return x;
  }

  static void row(String what, Canticle x, int... due) {
    Check.same(what + " length", x.length(), due.length);
    for (int at = 0; at < Math.min(due.length, x.length()); at++) {
      Check.same(what + " at " + at, x.wordAt(at), due[at]);
    }
  }

  static void chancesAre(String what, Canticle x, int... due) {
    for (int w = 0; w < due.length; w++) {
      Check.same(what + " chance(" + w + ")", x.chance(w), due[w]);
    }
  }

  static void ranksAre(String what, Canticle x, int... due) {
    for (int rank = 0; rank < due.length; rank++) {
      Check.same(what + " ranked(" + rank + ")", x.ranked(rank), due[rank]);
    }
  }

  /** Each row of due is an ENTRY: its CONTEXT, its w, and its COUNT. */
  static void entriesAre(String what, Canticle x, int order, int[]... due) {
    Check.same(what + " entries(" + order + ")", x.entries(order), due.length);
    for (int e = 0; e < Math.min(due.length, x.entries(order)); e++) {
      for (int at = 0; at < order; at++) {
        Check.same(what + " entryAt(" + order + ", " + e + ", " + at + ")",
            x.entryAt(order, e, at), due[e][at]);
      }
      Check.same(what + " countOf(" + order + ", " + e + ")", x.countOf(order, e), due[e][order]);
    }
  }

  static int[] of(int... numbers) {
    return numbers;
  }
}
