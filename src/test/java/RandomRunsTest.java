/** Long runs of calls on the program and on NaiveModel at once: each answer must be the same. */
public final class RandomRunsTest {
  private static final int RUNS = 700;
  private static final int CALLS = 500;
  private static final int[] ODD = {
    -1, 0, 1, 2, 12, 13, 100, 101, 800, 1000, 1001, 9999, 10000, 1000000, 1000001,
    Integer.MAX_VALUE, Integer.MIN_VALUE, -1000000, 1 << 30, 32, 33, 64
  };

  private long state;
  private final Canticle x = new Canticle();
  private final NaiveModel y = new NaiveModel();
  private final StringBuilder told = new StringBuilder();

  private RandomRunsTest(long seed) {
    state = seed * 7919 + 17;
  }

  // A generator of its own, so that the runs are the same everywhere.
  private int below(int n) {
    state = state * 6364136223846793005L + 1442695040888963407L;
    return (int) ((state >>> 33) % n);
  }

  private int between(int low, int high) {
    return below(60) == 0 ? ODD[below(ODD.length)] : low + below(high - low + 1);
  }

  private boolean same(String what, Check.Call program, Check.Call model) {
    String got = Check.answer(program);
    String due = Check.answer(model);
    told.append(what).append(" = ").append(due).append('\n');
    Check.holds(what, got.equals(due));
    if (!got.equals(due)) {
      System.out.println(told + "but answered " + got);
    }
    return got.equals(due);
  }

  private boolean run() {
    int words = below(8) == 0 ? 12 : 1 + below(6);
    for (int i = 0; i < words; i++) {
      if (!same("addWord()", x::addWord, y::addWord)) {
        return false;
      }
    }
    int order = 1 + below(4);
    if (!same("setOrder(" + order + ")", () -> x.setOrder(order), () -> y.setOrder(order))) {
      return false;
    }
    boolean crowded = words == 12 && below(2) == 0;
    for (int i = words + 1; i < CALLS - 12; i++) {
      boolean going = crowded && i < CALLS / 2 ? crowd() : step();
      if (!going) {
        return false;
      }
      if (below(40) == 0 && !same("digest()", x::digest, y::digest)) {
        return false;
      }
    }
    return same("digest()", x::digest, y::digest);
  }

  /** Calls that fill the ENTRIES up to their limit soon. */
  private boolean crowd() {
    if (y.sentence.size() < 12) {
      return say();
    }
    if (below(3) == 0) {
      return learning();
    }
    return below(2) == 0 ? same("hush()", x::hush, y::hush) : say();
  }

  private boolean step() {
    switch (below(12)) {
      case 0:
      case 1:
      case 2:
        return say();
      case 3:
        return below(5) == 0 ? pruning() : learning();
      case 4:
        return learning();
      case 5:
        return looking();
      case 6:
        return chances();
      case 7:
      case 8:
        return scripts();
      case 9:
        return below(4) > 0 ? whatWouldBe() : same("hush()", x::hush, y::hush);
      case 10:
        return scores();
      default:
        return plain();
    }
  }

  private boolean say() {
    int w = between(0, Math.max(0, y.v - 1));
    return same("say(" + w + ")", () -> x.say(w), () -> y.say(w));
  }

  private boolean learning() {
    if (below(6) == 0) {
      return same("unlearn()", x::unlearn, y::unlearn);
    }
    int times = below(3) == 0 ? between(1, 100) : between(1, 4);
    return same("learn(" + times + ")", () -> x.learn(times), () -> y.learn(times));
  }

  private boolean looking() {
    int order = between(1, y.n);
    int entry = between(0, 20);
    int place = between(0, Math.max(0, order < 5 ? order - 1 : 0));
    int what = between(0, 1);
    switch (below(5)) {
      case 0:
        return same("entries(" + order + ")", () -> x.entries(order), () -> y.entries(order));
      case 1:
        return same("entryAt(" + order + ", " + entry + ", " + place + ")",
            () -> x.entryAt(order, entry, place), () -> y.entryAt(order, entry, place));
      case 2:
        return same("countOf(" + order + ", " + entry + ")",
            () -> x.countOf(order, entry), () -> y.countOf(order, entry));
      case 3:
        int at = between(0, 12);
        return same("wordAt(" + at + ")", () -> x.wordAt(at), () -> y.wordAt(at));
      default:
        return same("ofContext(" + order + ", " + what + ")",
            () -> x.ofContext(order, what), () -> y.ofContext(order, what));
    }
  }

  private boolean pruning() {
    int order = between(2, Math.max(2, y.n));
    if (below(2) == 0) {
      int least = between(1, 6);
      return same("prune(" + order + ", " + least + ")",
          () -> x.prune(order, least), () -> y.prune(order, least));
    }
    int parts = below(2) == 0 ? between(1, 1000) : between(1000, 200000);
    return same("pruneBy(" + order + ", " + parts + ")",
        () -> x.pruneBy(order, parts), () -> y.pruneBy(order, parts));
  }

  private boolean chances() {
    if (below(2) == 0) {
      int way = between(0, 4);
      int number = below(4) == 0 ? 1000 - 999 * below(2) : between(1, 1000);
      return same("setWay(" + way + ", " + number + ")",
          () -> x.setWay(way, number), () -> y.setWay(way, number));
    }
    int w = between(0, y.v);
    return below(2) == 0
        ? same("chance(" + w + ")", () -> x.chance(w), () -> y.chance(w))
        : same("ranked(" + w + ")", () -> x.ranked(w), () -> y.ranked(w));
  }

  private boolean scripts() {
    switch (below(6)) {
      case 0:
        int newLuck = between(0, 9999);
        return same("setLuck(" + newLuck + ")", () -> x.setLuck(newLuck), () -> y.setLuck(newLuck));
      case 1:
        return below(4) == 0 ? same("clearScript()", x::clearScript, y::clearScript) : plain();
      case 2:
      case 3:
        int code = between(0, 5);
        int a = code == 3 || code == 5 ? between(1, 12) : between(0, y.v);
        return same("addStep(" + code + ", " + a + ")",
            () -> x.addStep(code, a), () -> y.addStep(code, a));
      default:
        return same("runScript()", x::runScript, y::runScript);
    }
  }

  private boolean whatWouldBe() {
    switch (below(3)) {
      case 0:
        int times = between(1, 100);
        return same("scoreLearned(" + times + ")",
            () -> x.scoreLearned(times), () -> y.scoreLearned(times));
      case 1:
        int way = between(0, 4);
        int number = between(1, 1000);
        return same("scoreBy(" + way + ", " + number + ")",
            () -> x.scoreBy(way, number), () -> y.scoreBy(way, number));
      default:
        return same("wouldDraw()", x::wouldDraw, y::wouldDraw);
    }
  }

  private boolean scores() {
    switch (below(4)) {
      case 0:
        return same("score()", x::score, y::score);
      case 1:
        return same("meanCost()", () -> Double.doubleToLongBits(x.meanCost()),
            () -> Double.doubleToLongBits(y.meanCost()));
      case 2:
        int p = below(2) == 0 ? between(0, 1000000) : between(0, 2000);
        return same("costOf(" + p + ")", () -> x.costOf(p), () -> NaiveModel.cost(p));
      default:
        int size = y.sentence.size();
        int length = below(20) == 0 ? between(-1, 13) : size + below(Math.max(1, 13 - size));
        if (y.v > 6 && y.n == 4 && length - size > 4 && below(6) > 0) {
          return true;
        }
        return same("complete(" + length + ")", () -> x.complete(length), () -> y.complete(length));
    }
  }

  private boolean plain() {
    switch (below(30)) {
      case 0:
        return below(4) > 0 || same("addWord()", x::addWord, y::addWord);
      case 1:
        int order = between(1, 4);
        return below(3) > 0
            || same("setOrder(" + order + ")", () -> x.setOrder(order), () -> y.setOrder(order));
      case 2:
        return same("words()", x::words, () -> y.v);
      case 3:
        return same("order()", x::order, () -> y.n);
      case 4:
        return same("length()", x::length, () -> y.sentence.size());
      case 5:
        return same("luck()", x::luck, () -> y.luck);
      case 6:
        return same("draws()", x::draws, () -> y.draws);
      default:
        return same("hasEnded()", () -> x.hasEnded() ? 1 : 0, () -> y.ended ? 1 : 0);
    }
  }

  public static void main(String[] args) {
    int runs = args.length > 0 ? Integer.parseInt(args[0]) : RUNS;
    int first = args.length > 1 ? Integer.parseInt(args[1]) : 0;
    for (int seed = first; seed < first + runs; seed++) {
      if (!new RandomRunsTest(seed).run()) {
        System.out.println("that was the run of seed " + seed);
        break;
      }
    }
    Check.end("RandomRunsTest");
  }
}
