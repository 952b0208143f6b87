import java.lang.management.ManagementFactory;

/**
 * Calls with any numbers in any state, on one object far behind its 512th call: only the
 * exceptions of the face come out. And calls that do not throw make no objects.
 */
public final class HardCallsTest {
  private static final int[] ODD = {
    Integer.MIN_VALUE, Integer.MIN_VALUE + 1, -1000000, -14, -13, -1, 13, 14, 31, 32, 33, 800, 852,
    1000, 1001, 9999, 10000, 1 << 20, 1 << 30, Integer.MAX_VALUE - 1, Integer.MAX_VALUE
  };
  private static final String NONE = "";
  private static final String[] ALLOWED = {
    Check.STATE, Check.ARGUMENT, Check.INDEX + Check.STATE, NONE, Check.ARGUMENT + Check.STATE,
    Check.STATE, NONE, NONE, NONE, Check.INDEX, Check.ARGUMENT, Check.ARGUMENT + Check.INDEX,
    Check.ARGUMENT + Check.INDEX, Check.ARGUMENT, Check.ARGUMENT, Check.ARGUMENT, Check.ARGUMENT,
    Check.INDEX, Check.INDEX, NONE, NONE, NONE, Check.ARGUMENT + Check.STATE, Check.ARGUMENT,
    Check.ARGUMENT + Check.STATE, NONE, Check.STATE, NONE, NONE, NONE,
    Check.ARGUMENT + Check.STATE, Check.ARGUMENT, Check.STATE, NONE
  };

  private long state;

  private HardCallsTest(long seed) {
    state = seed;
  }

  private int below(int n) {
    state = state * 6364136223846793005L + 1442695040888963407L;
    return (int) ((state >>> 33) % n);
  }

  private int any() {
    return below(8) == 0 ? ODD[below(ODD.length)] : below(5) == 0 ? below(1100) : below(13);
  }

  static long call(Canticle x, int which, int a, int b, int c) {
    switch (which) {
      case 0: return x.addWord();
      case 1: return x.setOrder(a);
      case 2: return x.say(a);
      case 3: return x.hush();
      case 4: return x.learn(a);
      case 5: return x.unlearn();
      case 6: return x.words();
      case 7: return x.order();
      case 8: return x.length();
      case 9: return x.wordAt(a);
      case 10: return x.entries(a);
      case 11: return x.entryAt(a, b, c);
      case 12: return x.countOf(a, b);
      case 13: return x.ofContext(a, b);
      case 14: return x.prune(a, b);
      case 15: return x.pruneBy(a, b);
      case 16: return x.setWay(a, b);
      case 17: return x.chance(a);
      case 18: return x.ranked(a);
      case 19: return x.costOf(a);
      case 20: return x.score();
      case 21: return x.meanCost() >= 0 ? 1 : 0;
      case 22: return x.complete(a);
      case 23: return x.setLuck(a);
      case 24: return x.addStep(a, b);
      case 25: return x.clearScript();
      case 26: return x.runScript();
      case 27: return x.hasEnded() ? 1 : 0;
      case 28: return x.luck();
      case 29: return x.draws();
      case 30: return x.scoreLearned(a);
      case 31: return x.scoreBy(a, b);
      case 32: return x.wouldDraw();
      default: return x.digest();
    }
  }

  private void anyCalls(int calls) {
    Canticle x = new Canticle();
    for (int i = 0; i < calls; i++) {
      int which = below(ALLOWED.length);
      // What clears everything comes seldom, and long rows to be completed do.
      if (which <= 1 && below(50) > 0 || which == 22 && below(20) > 0) {
        which = 2;
      }
      int chosen = which;
      int a = any();
      int b = any();
      int c = any();
      String got = Check.answer(() -> call(x, chosen, a, b, c));
      if (got.startsWith("throws.")) {
        Check.holds("call " + which + " with " + a + ", " + b + ", " + c + " answered " + got,
            ALLOWED[which].contains(got.substring(7)));
      }
    }
    Check.same("digest() is the same twice", x.digest(), x.digest());
  }

  /** COUNTS as high as no 512 calls make them. */
  private static void manyTimes() {
    Canticle x = new Canticle();
    x.addWord();
    for (int i = 0; i < 12; i++) {
      x.say(0);
    }
    for (int i = 0; i < 400000; i++) {
      x.learn(100);
    }
    for (int way = 0; way <= 4; way++) {
      x.setWay(way, 1000);
      Check.holds("a chance is a chance still", x.chance(0) >= 0 && x.chance(0) <= 1000000);
      x.scoreLearned(100);
    }
    Check.holds("COUNTS stay above 0", x.countOf(1, 0) > 0 && x.ofContext(1, 0) > 0);
  }

  private static void fill(Canticle x) {
    for (int w = 0; w < 12; w++) {
      x.addWord();
    }
    x.setOrder(4);
    int seed = 3;
    for (int row = 0; row < 14; row++) {
      x.hush();
      for (int at = 0; at < 12; at++) {
        seed = seed * 1103515245 + 12345;
        x.say(Math.floorMod(seed >> 16, 12));
      }
      x.learn(1 + row);
    }
    for (int code = 0; code <= 5; code++) {
      x.addStep(code, 3);
    }
    x.hush();
  }

  private static long dearCalls(Canticle x) {
    long sum = 0;
    for (int turn = 0; turn < 8; turn++) {
      x.setWay(turn % 5, 600);
      sum += x.complete(12) + x.score() + x.scoreLearned(3) + x.scoreBy(4, 9) + x.digest();
      sum += x.wouldDraw() + x.ranked(3) + x.hush() + x.runScript() + x.learn(1) + x.unlearn();
      sum += x.ofContext(4, 0) + x.entryAt(4, 0, 0) + x.hush() + x.pruneBy(4, 1) + x.prune(3, 1);
    }
    return sum;
  }

  private static void noObjects() {
    if (!(ManagementFactory.getThreadMXBean() instanceof com.sun.management.ThreadMXBean)) {
      return;
    }
    com.sun.management.ThreadMXBean bean =
        (com.sun.management.ThreadMXBean) ManagementFactory.getThreadMXBean();
    if (!bean.isThreadAllocatedMemorySupported()) {
      return;
    }
    long self = Thread.currentThread().getId();
    Canticle warm = new Canticle();
    fill(warm);
    dearCalls(warm);
    long start = bean.getThreadAllocatedBytes(self);
    Canticle x = new Canticle();
    long made = bean.getThreadAllocatedBytes(self);
    fill(x);
    dearCalls(x);
    long end = bean.getThreadAllocatedBytes(self);
    Check.holds("an object takes " + (made - start) + " bytes", made - start < 400000);
    Check.holds("the calls took " + (end - made) + " bytes", end - made < 20000);
  }

  public static void main(String[] args) {
    for (int seed = 0; seed < 40; seed++) {
      new HardCallsTest(seed * 31 + 1).anyCalls(3000);
    }
    for (int seed = 0; seed < 3000; seed++) {
      new HardCallsTest(seed * 17 + 5).anyCalls(60);
    }
    manyTimes();
    noObjects();
    Check.end("HardCallsTest");
  }
}
