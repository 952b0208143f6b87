import java.util.Arrays;

/** A model of a language by counts. */
public final class Canticle {
  private static final int UNIT = 1000000;
  private static final int MOST_WORDS = 12;
  private static final int MOST_PLACES = 12;
  private static final int MOST_STEPS = 12;
  private static final int MOST_ORDER = 4;
  private static final int MOST_ENTRIES = 800;
  private static final int MOST_TIMES = 100;
  private static final int MOST_NUMBER = 1000;
  private static final int MOST_LEAST = 1000;

  private static final int ADDED = 0;
  private static final int MIXED = 1;
  private static final int SEEN = 2;
  private static final int VARIED = 4;

  private static final int DRAW_OF_ALL = 0;
  private static final int TAKE_LIKELIEST = 1;
  private static final int TAKE_WORD = 2;
  private static final int DRAW_OF_LIKELIEST = 3;
  private static final int DRAW_OF_OTHERS = 4;
  private static final int GO_TO_FIRST = 5;

  private static final int COST_OF_NOTHING = 32768;
  private static final int COST_OF_HALF = 1024;
  private static final int LUCKS = 10000;

  // A row of BEGIN, WORDS and the END is told by one number in this base, a digit for each
  // place: 0 is BEGIN, 1 to V are the WORDS, V + 1 is the END. Rows of one length then stand
  // in the order of their numbers as the document orders them.
  private static final int BASE = 14;
  private static final int[] POWERS = {1, 14, 196, 2744, 38416};

  private final Ledger ledger;
  private final Reckoner reckoner;
  private final Search search;
  private final Script script;
  private final boolean[] doomed;
  private final int[] sentence;
  private int length;
  private int luck;
  private int draws;
  private boolean ended;

  public Canticle() {
    ledger = new Ledger();
    reckoner = new Reckoner(ledger);
    search = new Search(ledger, reckoner);
    script = new Script();
    doomed = new boolean[Tally.ROOM];
    sentence = new int[MOST_PLACES];
    length = 0;
    luck = 0;
    draws = 0;
    ended = false;
  }

  // ---- words and learning

  public int addWord() throws IllegalStateException {
    if (ledger.words >= MOST_WORDS) {
      throw new IllegalStateException("there are 12 WORDS");
    }
    ledger.forgetAll();
    length = 0;
    ledger.words++;
    return ledger.words - 1;
  }

  public int setOrder(int order) throws IllegalArgumentException {
    if (order < 1 || order > MOST_ORDER) {
      throw new IllegalArgumentException("the order is not 1 to 4");
    }
    int before = ledger.order;
    ledger.forgetAll();
    ledger.order = order;
    return before;
  }

  public int say(int word) throws IndexOutOfBoundsException, IllegalStateException {
    if (!isWord(word)) {
      throw new IndexOutOfBoundsException("there is no such WORD");
    }
    if (length >= MOST_PLACES) {
      throw new IllegalStateException("the SENTENCE has 12 WORDS");
    }
    append(word);
    return length;
  }

  public int hush() {
    int before = length;
    length = 0;
    return before;
  }

  public int learn(int times) throws IllegalArgumentException, IllegalStateException {
    if (times < 1 || times > MOST_TIMES) {
      throw new IllegalArgumentException("times is not 1 to 100");
    }
    if (ledger.words == 0) {
      throw new IllegalStateException("there is no WORD");
    }
    addSentence(times);
    if (ledger.sizeInAll() > MOST_ENTRIES) {
      takeSentence(times);
      throw new IllegalStateException("there would be more than 800 ENTRIES");
    }
    return ledger.sizeInAll();
  }

  public int unlearn() throws IllegalStateException {
    if (!canTakeSentence()) {
      throw new IllegalStateException("an ENTRY has less than would be taken");
    }
    return takeSentence(1);
  }

  public int words() {
    return ledger.words;
  }

  public int order() {
    return ledger.order;
  }

  public int length() {
    return length;
  }

  public int wordAt(int place) throws IndexOutOfBoundsException {
    if (place < 0 || place >= length) {
      throw new IndexOutOfBoundsException("there is no such place");
    }
    return sentence[place];
  }

  // ---- counts

  public int entries(int order) throws IllegalArgumentException {
    if (!isOrder(order)) {
      throw new IllegalArgumentException("the order is not 1 to the ORDER");
    }
    return ledger.countsOf(order).size;
  }

  public int entryAt(int order, int entry, int place)
      throws IllegalArgumentException, IndexOutOfBoundsException {
    if (!isOrder(order)) {
      throw new IllegalArgumentException("the order is not 1 to the ORDER");
    }
    Tally tally = ledger.countsOf(order);
    if (entry < 0 || entry >= tally.size || place < 0 || place >= order) {
      throw new IndexOutOfBoundsException("there is no such ENTRY, or place");
    }
    return partOf(tally.keys[entry], order, place);
  }

  public int countOf(int order, int entry)
      throws IllegalArgumentException, IndexOutOfBoundsException {
    if (!isOrder(order)) {
      throw new IllegalArgumentException("the order is not 1 to the ORDER");
    }
    Tally tally = ledger.countsOf(order);
    if (entry < 0 || entry >= tally.size) {
      throw new IndexOutOfBoundsException("there is no such ENTRY");
    }
    return tally.counts[entry];
  }

  public int ofContext(int order, int what) throws IllegalArgumentException {
    if (!isOrder(order) || what < 0 || what > 1) {
      throw new IllegalArgumentException("the order is not 1 to the ORDER, or what not 0 or 1");
    }
    return totalBehind(order, what);
  }

  public int prune(int order, int least) throws IllegalArgumentException {
    if (order < 2 || order > ledger.order || least < 1 || least > MOST_LEAST) {
      throw new IllegalArgumentException("the order is not 2 to the ORDER, or least not 1 to 1000");
    }
    Tally tally = ledger.countsOf(order);
    for (int entry = 0; entry < tally.size; entry++) {
      doomed[entry] = tally.counts[entry] < least;
    }
    return dropDoomed(order);
  }

  public int pruneBy(int order, int parts) throws IllegalArgumentException {
    if (order < 2 || order > ledger.order || parts < 1 || parts > UNIT) {
      throw new IllegalArgumentException("the order is not 2 to the ORDER, or parts not 1 to UNIT");
    }
    Tally tally = ledger.countsOf(order);
    for (int entry = 0; entry < tally.size; entry++) {
      doomed[entry] = gainOf(order, tally.keys[entry]) < parts;
    }
    return dropDoomed(order);
  }

  // ---- chances and scores

  public int setWay(int way, int number) throws IllegalArgumentException {
    if (!isWay(way, number)) {
      throw new IllegalArgumentException("the way is not 0 to 4, or the number not 1 to 1000");
    }
    int before = reckoner.way;
    reckoner.way = way;
    reckoner.number = number;
    return before;
  }

  public int chance(int word) throws IndexOutOfBoundsException {
    if (word < 0 || word > ledger.words) {
      throw new IndexOutOfBoundsException("there is no such WORD, and it is not V");
    }
    reckonBehindSentence();
    return reckoner.chances[word];
  }

  public int ranked(int rank) throws IndexOutOfBoundsException {
    if (rank < 0 || rank > ledger.words) {
      throw new IndexOutOfBoundsException("there is no such rank");
    }
    reckonBehindSentence();
    return reckoner.withRank(rank);
  }

  public int costOf(int chance) {
    return cost(chance);
  }

  public int score() {
    return sumOfCosts();
  }

  public double meanCost() {
    return (double) sumOfCosts() / (length + 1);
  }

  public int complete(int length) throws IllegalArgumentException, IllegalStateException {
    if (length < this.length || length > MOST_PLACES) {
      throw new IllegalArgumentException("the length is below the SENTENCE's, or above 12");
    }
    if (ledger.words == 0) {
      throw new IllegalStateException("there is no WORD");
    }
    int more = length - this.length;
    search.choose(keyUpTo(this.length - 1, ledger.order - 1), more);
    int state = 0;
    for (int depth = 0; depth < more; depth++) {
      int word = search.choiceAt(depth, state);
      append(word);
      state = search.stateBehind(depth, state, word);
    }
    return sumOfCosts();
  }

  // ---- scripts

  public int setLuck(int luck) throws IllegalArgumentException {
    if (luck < 0 || luck >= LUCKS) {
      throw new IllegalArgumentException("the luck is not 0 to 9999");
    }
    int before = this.luck;
    this.luck = luck;
    return before;
  }

  public int addStep(int code, int a) throws IllegalArgumentException, IllegalStateException {
    if (!isStep(code, a)) {
      throw new IllegalArgumentException("there is no such code, or a does not fit it");
    }
    if (script.size >= MOST_STEPS) {
      throw new IllegalStateException("there are 12 STEPS");
    }
    return script.append(code, a);
  }

  public int clearScript() {
    int before = script.size;
    script.size = 0;
    return before;
  }

  public int runScript() throws IllegalStateException {
    if (ledger.words == 0 || script.size == 0) {
      throw new IllegalStateException("there is no WORD, or no STEP");
    }
    ended = false;
    script.forgetReturns();
    int at = 0;
    // 12 STEPS that go back 12 times each come to less than 2000 turns.
    for (int turn = 0; turn < 1000000 && at < script.size; turn++) {
      if (ended || length >= MOST_PLACES) {
        break;
      }
      if (script.codes[at] == GO_TO_FIRST) {
        at = script.placeBehindReturn(at);
      } else {
        takeByStep(script.codes[at], script.numbers[at]);
        at++;
      }
    }
    return length;
  }

  public boolean hasEnded() {
    return ended;
  }

  public int luck() {
    return luck;
  }

  public int draws() {
    return draws;
  }

  // ---- what would be (nothing is changed)

  public int scoreLearned(int times) throws IllegalArgumentException, IllegalStateException {
    if (times < 1 || times > MOST_TIMES) {
      throw new IllegalArgumentException("times is not 1 to 100");
    }
    if (ledger.words == 0) {
      throw new IllegalStateException("there is no WORD");
    }
    addSentence(times);
    int answer = sumOfCosts();
    takeSentence(times);
    return answer;
  }

  public int scoreBy(int way, int number) throws IllegalArgumentException {
    if (!isWay(way, number)) {
      throw new IllegalArgumentException("the way is not 0 to 4, or the number not 1 to 1000");
    }
    int wayBefore = reckoner.way;
    int numberBefore = reckoner.number;
    reckoner.way = way;
    reckoner.number = number;
    int answer = sumOfCosts();
    reckoner.way = wayBefore;
    reckoner.number = numberBefore;
    return answer;
  }

  public int wouldDraw() throws IllegalStateException {
    if (ledger.words == 0) {
      throw new IllegalStateException("there is no WORD");
    }
    reckonBehindSentence();
    return reckoner.pick(luckBehind(luck), allOutcomes());
  }

  public long digest() {
    long d = 58041;
    d = mix(d, ledger.words);
    d = mix(d, ledger.order);
    d = mix(d, length);
    for (int place = 0; place < length; place++) {
      d = mix(d, sentence[place]);
    }
    for (int n = 1; n <= ledger.order; n++) {
      d = mixEntries(d, n);
    }
    for (int n = 1; n <= ledger.order; n++) {
      d = mix(d, totalBehind(n, 0));
      d = mix(d, totalBehind(n, 1));
    }
    d = mixChances(d);
    d = mix(d, sumOfCosts());
    d = mix(d, luck);
    d = mix(d, draws);
    return mix(d, ended ? 1 : 0);
  }

  // ---- what is allowed

  private boolean isWord(int word) {
    return word >= 0 && word < ledger.words;
  }

  private boolean isOrder(int order) {
    return order >= 1 && order <= ledger.order;
  }

  private static boolean isWay(int way, int number) {
    return way >= 0 && way <= 4 && number >= 1 && number <= MOST_NUMBER;
  }

  private boolean isStep(int code, int a) {
    switch (code) {
      case DRAW_OF_ALL:
      case TAKE_LIKELIEST:
        return true;
      case TAKE_WORD:
        return isWord(a);
      case DRAW_OF_OTHERS:
        return isWord(a) || a == ledger.words;
      case DRAW_OF_LIKELIEST:
      case GO_TO_FIRST:
        return a >= 1 && a <= 12;
      default:
        return false;
    }
  }

  // ---- the SENTENCE

  private void append(int word) {
    if (length < MOST_PLACES) {
      sentence[length] = word;
      length++;
    }
  }

  private int digitAt(int place) {
    if (place < 0) {
      return 0;
    }
    return place < length ? sentence[place] + 1 : ledger.words + 1;
  }

  /** The key of so many places that end with this one. */
  private int keyUpTo(int place, int places) {
    int key = 0;
    for (int at = place - places + 1; at <= place; at++) {
      key = key * BASE + digitAt(at);
    }
    return key;
  }

  private void addSentence(int times) {
    for (int n = 1; n <= ledger.order; n++) {
      for (int place = 0; place <= length; place++) {
        ledger.raise(n, keyUpTo(place, n), times);
      }
    }
  }

  /** Answers how many ENTRIES are gone by that. */
  private int takeSentence(int times) {
    int gone = 0;
    for (int n = 1; n <= ledger.order; n++) {
      for (int place = 0; place <= length; place++) {
        if (ledger.lower(n, keyUpTo(place, n), times)) {
          gone++;
        }
      }
    }
    return gone;
  }

  private boolean canTakeSentence() {
    for (int n = 1; n <= ledger.order; n++) {
      for (int place = 0; place <= length; place++) {
        int key = keyUpTo(place, n);
        if (ledger.countsOf(n).numberOf(key) < timesInSentence(key, n)) {
          return false;
        }
      }
    }
    return true;
  }

  private int timesInSentence(int key, int n) {
    int times = 0;
    for (int place = 0; place <= length; place++) {
      if (keyUpTo(place, n) == key) {
        times++;
      }
    }
    return times;
  }

  // ---- ENTRIES

  private int partOf(int key, int order, int place) {
    int digit = key / POWERS[order - 1 - place] % BASE;
    return digit - 1;
  }

  private int totalBehind(int order, int what) {
    reckoner.gather(ledger.countsOf(order), keyUpTo(length - 1, order - 1));
    return what == 0 ? (int) reckoner.sum : reckoner.kinds;
  }

  /** By how much the first place of an ENTRY's CONTEXT moves its chance. */
  private int gainOf(int order, int key) {
    int context = key / BASE;
    int word = key % BASE - 1;
    if (word < 0 || word > MOST_WORDS) {
      return 0;
    }
    reckoner.reckon(order, context);
    int longer = reckoner.chances[word];
    reckoner.reckon(order - 1, context);
    return Math.abs(longer - reckoner.chances[word]);
  }

  private int dropDoomed(int order) {
    int gone = 0;
    for (int entry = ledger.countsOf(order).size - 1; entry >= 0; entry--) {
      if (doomed[entry]) {
        ledger.drop(order, entry);
        gone++;
      }
    }
    return gone;
  }

  // ---- COSTS

  private static int cost(int chance) {
    if (chance <= 0) {
      return COST_OF_NOTHING;
    }
    if (chance >= UNIT) {
      return 0;
    }
    int halvings = 0;
    // UNIT halved 19 times is 1, so no chance that is left lies below that.
    while (halvings < 19 && chance <= UNIT >> (halvings + 1)) {
      halvings++;
    }
    int above = UNIT >> halvings;
    int below = UNIT >> (halvings + 1);
    return COST_OF_HALF * halvings + COST_OF_HALF * (above - chance) / (above - below);
  }

  private int sumOfCosts() {
    int sum = 0;
    for (int place = 0; place <= length; place++) {
      reckoner.reckon(ledger.order, keyUpTo(place - 1, ledger.order - 1));
      int word = digitAt(place) - 1;
      if (word >= 0 && word <= MOST_WORDS) {
        sum += cost(reckoner.chances[word]);
      }
    }
    return sum;
  }

  private void reckonBehindSentence() {
    reckoner.reckon(ledger.order, keyUpTo(length - 1, ledger.order - 1));
  }

  // ---- draws and STEPS

  private static int luckBehind(int luck) {
    return (luck * 4621 + 2777) % LUCKS;
  }

  /** Outcomes are WORDS and the END; a set of them has a bit for each. */
  private int allOutcomes() {
    return (1 << (ledger.words + 1)) - 1;
  }

  private int draw(int outcomes) {
    luck = luckBehind(luck);
    draws++;
    return reckoner.pick(luck, outcomes);
  }

  private void takeByStep(int code, int a) {
    reckonBehindSentence();
    int taken = outcomeOf(code, a);
    if (taken == ledger.words) {
      ended = true;
    } else {
      append(taken);
    }
  }

  private int outcomeOf(int code, int a) {
    switch (code) {
      case TAKE_LIKELIEST:
        return reckoner.withRank(0);
      case TAKE_WORD:
        return a;
      case DRAW_OF_LIKELIEST:
        return draw(reckoner.likeliest(a));
      case DRAW_OF_OTHERS:
        return draw(allOutcomes() & ~(1 << a));
      default:
        return draw(allOutcomes());
    }
  }

  // ---- the checksum

  private static long mix(long d, long x) {
    return d * 31 + x;
  }

  private long mixEntries(long start, int order) {
    Tally tally = ledger.countsOf(order);
    long d = mix(start, tally.size);
    for (int entry = 0; entry < tally.size; entry++) {
      for (int place = 0; place < order; place++) {
        d = mix(d, partOf(tally.keys[entry], order, place));
      }
      d = mix(d, tally.counts[entry]);
    }
    return d;
  }

  private long mixChances(long start) {
    long d = start;
    reckonBehindSentence();
    for (int word = 0; word <= ledger.words; word++) {
      d = mix(d, reckoner.chances[word]);
    }
    for (int rank = 0; rank <= ledger.words; rank++) {
      d = mix(d, reckoner.withRank(rank));
    }
    return d;
  }

  /** Keys with a number above 0 each, by the order of the keys. */
  private static final class Tally {
    // Beside 800 ENTRIES those that scoreLearned() makes for a while: 13 places of 4 orders.
    static final int ROOM = 852;
    // Far above what 512 calls can count; with it no product in a chance overflows.
    static final int MOST_COUNT = 100000000;

    final int[] keys = new int[ROOM];
    final int[] counts = new int[ROOM];
    int size = 0;

    /** How many keys are below this one: the index where it stands, or would stand. */
    int keysBelow(int key) {
      int at = 0;
      for (int step = 512; step > 0; step = step / 2) {
        if (at + step <= size && keys[at + step - 1] < key) {
          at += step;
        }
      }
      return at;
    }

    boolean standsAt(int at, int key) {
      return at < size && keys[at] == key;
    }

    int numberOf(int key) {
      int at = keysBelow(key);
      return standsAt(at, key) ? counts[at] : 0;
    }

    /** Answers whether the key is new. */
    boolean raise(int key, int times) {
      int at = keysBelow(key);
      if (standsAt(at, key)) {
        counts[at] = Math.min(MOST_COUNT, counts[at] + times);
        return false;
      }
      if (size >= ROOM) {
        return false;
      }
      System.arraycopy(keys, at, keys, at + 1, size - at);
      System.arraycopy(counts, at, counts, at + 1, size - at);
      keys[at] = key;
      counts[at] = times;
      size++;
      return true;
    }

    /** Answers whether the key is gone. */
    boolean lower(int key, int times) {
      int at = keysBelow(key);
      if (!standsAt(at, key)) {
        return false;
      }
      counts[at] -= times;
      if (counts[at] > 0) {
        return false;
      }
      removeAt(at);
      return true;
    }

    void removeAt(int at) {
      if (at < 0 || at >= size) {
        return;
      }
      System.arraycopy(keys, at + 1, keys, at, size - at - 1);
      System.arraycopy(counts, at + 1, counts, at, size - at - 1);
      size--;
    }
  }

  /** The WORDS, the ORDER, and all ENTRIES. */
  private static final class Ledger {
    int words = 0;
    int order = 2;
    private final Tally[] counted = new Tally[MOST_ORDER];
    // For (h, w), how many x there are with an ENTRY (x h, w). Kept up with each ENTRY that is
    // made or gone, so that the way VARIED only has to look at other tallies than TAKEN.
    private final Tally[] varied = new Tally[MOST_ORDER];

    Ledger() {
      for (int i = 0; i < MOST_ORDER; i++) {
        counted[i] = new Tally();
        varied[i] = new Tally();
      }
    }

    Tally countsOf(int n) {
      return counted[Math.max(1, Math.min(n, MOST_ORDER)) - 1];
    }

    Tally varietyOf(int n) {
      return varied[Math.max(1, Math.min(n, MOST_ORDER)) - 1];
    }

    void raise(int n, int key, int times) {
      if (countsOf(n).raise(key, times) && n > 1) {
        varietyOf(n - 1).raise(key % POWERS[n - 1], 1);
      }
    }

    boolean lower(int n, int key, int times) {
      boolean gone = countsOf(n).lower(key, times);
      if (gone) {
        lowerVariety(n, key);
      }
      return gone;
    }

    void drop(int n, int entry) {
      Tally tally = countsOf(n);
      if (entry < 0 || entry >= tally.size) {
        return;
      }
      int key = tally.keys[entry];
      tally.removeAt(entry);
      lowerVariety(n, key);
    }

    private void lowerVariety(int n, int key) {
      if (n > 1) {
        varietyOf(n - 1).lower(key % POWERS[n - 1], 1);
      }
    }

    int sizeInAll() {
      int sum = 0;
      for (int n = 1; n <= order; n++) {
        sum += countsOf(n).size;
      }
      return sum;
    }

    void forgetAll() {
      for (int n = 1; n <= MOST_ORDER; n++) {
        countsOf(n).size = 0;
        varietyOf(n).size = 0;
      }
    }
  }

  /** The chances of all WORDS and the END behind one CONTEXT. */
  private static final class Reckoner {
    private final Ledger ledger;
    int way = ADDED;
    int number = 500;
    final int[] chances = new int[MOST_WORDS + 1];
    private final int[] own = new int[MOST_WORDS + 1];
    long sum = 0;
    int kinds = 0;

    Reckoner(Ledger ledger) {
      this.ledger = ledger;
    }

    /** Of a longer CONTEXT than that of the order the last places are looked at. */
    void reckon(int n, int context) {
      Arrays.fill(chances, UNIT / (ledger.words + 1));
      // ADDED looks at the whole CONTEXT alone.
      for (int at = way == ADDED ? n : 1; at <= n; at++) {
        refine(at, context % POWERS[at - 1]);
      }
    }

    private void refine(int n, int context) {
      boolean varies = way == VARIED && n < ledger.order;
      gather(varies ? ledger.varietyOf(n) : ledger.countsOf(n), context);
      if (way != ADDED && sum <= 0) {
        return;
      }
      for (int word = 0; word <= ledger.words; word++) {
        chances[word] = (int) blend(own[word], chances[word]);
      }
    }

    void gather(Tally tally, int context) {
      Arrays.fill(own, 0);
      sum = 0;
      kinds = 0;
      int first = context * BASE;
      int at = tally.keysBelow(first);
      for (; at < tally.size && tally.keys[at] < first + BASE; at++) {
        int word = tally.keys[at] - first - 1;
        if (word >= 0 && word <= MOST_WORDS) {
          own[word] = tally.counts[at];
          sum += tally.counts[at];
          kinds++;
        }
      }
    }

    private long blend(long count, long shorter) {
      switch (way) {
        case ADDED:
          return (count * 1000 + number) * UNIT / (sum * 1000 + number * (ledger.words + 1));
        case MIXED:
          return (number * (count * UNIT / sum) + (1000 - number) * shorter) / 1000;
        case SEEN:
          return (count * UNIT + kinds * shorter) / (sum + kinds);
        default:
          long left = Math.max(0, count * 1000 - number);
          return (left * UNIT + number * kinds * shorter) / (sum * 1000);
      }
    }

    private boolean isLikelier(int word, int other) {
      if (chances[word] != chances[other]) {
        return chances[word] > chances[other];
      }
      return word < other;
    }

    private int rankOf(int word) {
      int rank = 0;
      for (int other = 0; other <= ledger.words; other++) {
        if (isLikelier(other, word)) {
          rank++;
        }
      }
      return rank;
    }

    int withRank(int rank) {
      for (int word = 0; word < ledger.words; word++) {
        if (rankOf(word) == rank) {
          return word;
        }
      }
      return ledger.words;
    }

    /** The set of so many of the likeliest. */
    int likeliest(int many) {
      int outcomes = 0;
      for (int word = 0; word <= ledger.words; word++) {
        if (rankOf(word) < many) {
          outcomes |= 1 << word;
        }
      }
      return outcomes;
    }

    /** The one of a set that is taken with this luck. */
    int pick(int luck, int outcomes) {
      long all = 0;
      for (int word = ledger.words; word >= 0; word--) {
        all += (outcomes >> word & 1) * chances[word];
      }
      long drawn = luck * all / LUCKS;
      int first = -1;
      long soFar = 0;
      for (int word = 0; word <= ledger.words; word++) {
        if ((outcomes >> word & 1) == 1) {
          soFar += chances[word];
          if (soFar > drawn) {
            return word;
          }
          first = first < 0 ? word : first;
        }
      }
      return first < 0 ? ledger.words : first;
    }
  }

  /**
   * Seeks the best row of WORDS behind a SENTENCE. A state at a depth is what the WORDS that
   * were chosen so far leave in the CONTEXT: the last ones of them, as a number in base V.
   */
  private static final class Search {
    private static final int MOST_STATES = 1728;
    private static final int ROW = MOST_WORDS + 1;

    private final Ledger ledger;
    private final Reckoner reckoner;
    private final int[] costs = new int[MOST_STATES * ROW];
    private final int[][] choices = new int[MOST_PLACES][MOST_STATES];
    private int[] least = new int[MOST_STATES];
    private int[] leastBehind = new int[MOST_STATES];

    Search(Ledger ledger, Reckoner reckoner) {
      this.ledger = ledger;
      this.reckoner = reckoner;
    }

    /** Chooses for each depth and state the WORD to go on with, so many WORDS behind a CONTEXT. */
    void choose(int context, int more) {
      fillCosts(context, more);
      for (int state = 0; state < statesAt(more); state++) {
        least[state] = costs[state * ROW + ledger.words];
      }
      for (int depth = more - 1; depth >= 0; depth--) {
        // Deeper, nothing of the first CONTEXT is left, and the costs stay as they are.
        if (depth < ledger.order - 1) {
          fillCosts(context, depth);
        }
        int[] spare = leastBehind;
        leastBehind = least;
        least = spare;
        chooseAt(depth);
      }
    }

    int choiceAt(int depth, int state) {
      if (depth < 0 || depth >= MOST_PLACES || state < 0 || state >= MOST_STATES) {
        return 0;
      }
      return choices[depth][state];
    }

    int stateBehind(int depth, int state, int word) {
      return (state * ledger.words + word) % statesAt(depth + 1);
    }

    private int placesAt(int depth) {
      return Math.min(depth, ledger.order - 1);
    }

    private int statesAt(int depth) {
      int states = 1;
      for (int place = 0; place < placesAt(depth); place++) {
        states *= Math.max(1, ledger.words);
      }
      return states;
    }

    private void fillCosts(int context, int depth) {
      int chosen = placesAt(depth);
      int kept = context % POWERS[ledger.order - 1 - chosen];
      int states = statesAt(depth);
      for (int state = 0; state < states; state++) {
        reckoner.reckon(ledger.order, kept * POWERS[chosen] + keyOf(state, chosen));
        for (int word = 0; word <= ledger.words; word++) {
          costs[state * ROW + word] = cost(reckoner.chances[word]);
        }
      }
    }

    private int keyOf(int state, int places) {
      int words = Math.max(1, ledger.words);
      int rest = state;
      int key = 0;
      for (int place = 0; place < places; place++) {
        key += (rest % words + 1) * POWERS[place];
        rest = rest / words;
      }
      return key;
    }

    private void chooseAt(int depth) {
      int words = ledger.words;
      int states = statesAt(depth);
      int statesBehind = statesAt(depth + 1);
      for (int state = 0; state < states; state++) {
        int best = 0;
        int bestCost = 0;
        for (int word = 0; word < words; word++) {
          int behind = leastBehind[(state * words + word) % statesBehind];
          int whole = costs[state * ROW + word] + behind;
          if (word == 0 || whole < bestCost) {
            best = word;
            bestCost = whole;
          }
        }
        least[state] = bestCost;
        choices[depth][state] = best;
      }
    }
  }

  /** The STEPS, and how often a run went back to the first one by each. */
  private static final class Script {
    final int[] codes = new int[MOST_STEPS];
    final int[] numbers = new int[MOST_STEPS];
    private final int[] returns = new int[MOST_STEPS];
    int size = 0;

    int append(int code, int a) {
      if (size < MOST_STEPS) {
        codes[size] = code;
        numbers[size] = a;
        size++;
      }
      return size - 1;
    }

    void forgetReturns() {
      Arrays.fill(returns, 0);
    }

    int placeBehindReturn(int at) {
      if (at < 0 || at >= MOST_STEPS || returns[at] >= numbers[at]) {
        return at + 1;
      }
      returns[at]++;
      return 0;
    }
  }
}
