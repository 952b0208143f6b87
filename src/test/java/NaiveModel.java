import java.util.ArrayList;
import java.util.Arrays;
import java.util.Collections;
import java.util.Comparator;
import java.util.HashMap;
import java.util.List;
import java.util.Map;

/**
 * The document once more, in its own words and as slow as they are: ENTRIES in a map from the
 * whole row (CONTEXT and w) to the COUNT, chances by the formulas, nothing kept up.
 */
final class NaiveModel {
  static final long UNIT = 1000000;

  int v = 0;
  int n = 2;
  int way = 0;
  int k = 500;
  int luck = 0;
  int draws = 0;
  boolean ended = false;
  List<Integer> sentence = new ArrayList<>();
  Map<List<Integer>, Integer> counts = new HashMap<>();
  List<int[]> script = new ArrayList<>();

  // ---- helpers

  List<Integer> lastOf(List<Integer> row, int many) {
    List<Integer> last = new ArrayList<>();
    for (int at = row.size() - many; at < row.size(); at++) {
      last.add(at < 0 ? -1 : row.get(at));
    }
    return last;
  }

  static List<Integer> with(List<Integer> row, int w) {
    List<Integer> longer = new ArrayList<>(row);
    longer.add(w);
    return longer;
  }

  static List<Integer> behind(int x, List<Integer> row) {
    List<Integer> longer = new ArrayList<>();
    longer.add(x);
    longer.addAll(row);
    return longer;
  }

  static List<Integer> withoutFirst(List<Integer> row) {
    return row.subList(1, row.size());
  }

  long plainCount(List<Integer> h, int w) {
    return counts.getOrDefault(with(h, w), 0);
  }

  long count(List<Integer> h, int w) {
    if (way != 4 || h.size() >= n - 1) {
      return plainCount(h, w);
    }
    long many = 0;
    for (int x = -1; x < v; x++) {
      if (counts.containsKey(with(behind(x, h), w))) {
        many++;
      }
    }
    return many;
  }

  long p(int w, List<Integer> h) {
    long c = 0;
    long t = 0;
    for (int other = 0; other <= v; other++) {
      c += count(h, other);
      t += count(h, other) > 0 ? 1 : 0;
    }
    long own = count(h, w);
    if (way == 0) {
      return (own * 1000 + k) * UNIT / (c * 1000 + (long) k * (v + 1));
    }
    long shorter = h.isEmpty() ? UNIT / (v + 1) : p(w, withoutFirst(h));
    if (c == 0) {
      return shorter;
    }
    if (way == 1) {
      return (k * (own * UNIT / c) + (1000 - k) * shorter) / 1000;
    }
    if (way == 2) {
      return (own * UNIT + t * shorter) / (c + t);
    }
    long u = own * 1000 - k;
    if (u < 0) {
      u = 0;
    }
    return (u * UNIT + k * t * shorter) / (c * 1000);
  }

  long chanceBehind(List<Integer> row, int w) {
    return p(w, lastOf(row, n - 1));
  }

  static long cost(long p) {
    if (p <= 0) {
      return 32768;
    }
    if (p >= UNIT) {
      return 0;
    }
    int greatest = 0;
    for (int i = 0; i < 40; i++) {
      if (p <= UNIT / (1L << i)) {
        greatest = i;
      }
    }
    long a = UNIT / (1L << greatest);
    long b = UNIT / (1L << (greatest + 1));
    return 1024 * greatest + 1024 * (a - p) / (a - b);
  }

  long scoreOf(List<Integer> row) {
    long sum = 0;
    for (int at = 0; at <= row.size(); at++) {
      int w = at < row.size() ? row.get(at) : v;
      sum += cost(chanceBehind(row.subList(0, at), w));
    }
    return sum;
  }

  List<List<Integer>> learned(int order) {
    List<List<Integer>> rows = new ArrayList<>();
    for (int at = 0; at <= sentence.size(); at++) {
      int w = at < sentence.size() ? sentence.get(at) : v;
      rows.add(with(lastOf(sentence.subList(0, at), order - 1), w));
    }
    return rows;
  }

  List<List<Integer>> entriesOf(int order) {
    List<List<Integer>> rows = new ArrayList<>();
    for (List<Integer> row : counts.keySet()) {
      if (row.size() == order) {
        rows.add(row);
      }
    }
    rows.sort(NaiveModel::compareRows);
    return rows;
  }

  static int compareRows(List<Integer> one, List<Integer> other) {
    for (int at = 0; at < one.size(); at++) {
      if (!one.get(at).equals(other.get(at))) {
        return one.get(at) - other.get(at);
      }
    }
    return 0;
  }

  void addTo(Map<List<Integer>, Integer> map, int times) {
    for (int order = 1; order <= n; order++) {
      for (List<Integer> row : learned(order)) {
        map.merge(row, times, Integer::sum);
      }
    }
  }

  void needOrder(int order, int from) {
    if (order < from || order > n) {
      throw new IllegalArgumentException();
    }
  }

  List<Integer> byRank() {
    List<Integer> all = new ArrayList<>();
    for (int w = 0; w <= v; w++) {
      all.add(w);
    }
    all.sort(Comparator.comparingLong((Integer w) -> -chanceBehind(sentence, w)));
    return all;
  }

  int drawOf(List<Integer> some) {
    luck = (luck * 4621 + 2777) % 10000;
    draws++;
    List<Integer> ordered = new ArrayList<>(some);
    Collections.sort(ordered);
    long sum = 0;
    for (int w : ordered) {
      sum += chanceBehind(sentence, w);
    }
    long drawn = luck * sum / 10000;
    long soFar = 0;
    for (int w : ordered) {
      soFar += chanceBehind(sentence, w);
      if (soFar > drawn) {
        return w;
      }
    }
    return ordered.get(0);
  }

  // ---- the face

  int addWord() {
    if (v == 12) {
      throw new IllegalStateException();
    }
    counts.clear();
    sentence.clear();
    return v++;
  }

  int setOrder(int order) {
    if (order < 1 || order > 4) {
      throw new IllegalArgumentException();
    }
    int before = n;
    n = order;
    counts.clear();
    return before;
  }

  int say(int word) {
    if (word < 0 || word >= v) {
      throw new IndexOutOfBoundsException();
    }
    if (sentence.size() == 12) {
      throw new IllegalStateException();
    }
    sentence.add(word);
    return sentence.size();
  }

  int hush() {
    int before = sentence.size();
    sentence.clear();
    return before;
  }

  int learn(int times) {
    if (times < 1 || times > 100) {
      throw new IllegalArgumentException();
    }
    Map<List<Integer>, Integer> after = new HashMap<>(counts);
    addTo(after, times);
    if (v == 0 || after.size() > 800) {
      throw new IllegalStateException();
    }
    counts = after;
    return counts.size();
  }

  int unlearn() {
    Map<List<Integer>, Integer> taken = new HashMap<>();
    addTo(taken, 1);
    for (List<Integer> row : taken.keySet()) {
      if (counts.getOrDefault(row, 0) < taken.get(row)) {
        throw new IllegalStateException();
      }
    }
    int before = counts.size();
    for (List<Integer> row : taken.keySet()) {
      counts.merge(row, -taken.get(row), Integer::sum);
    }
    counts.values().removeIf(c -> c == 0);
    return before - counts.size();
  }

  int wordAt(int place) {
    if (place < 0 || place >= sentence.size()) {
      throw new IndexOutOfBoundsException();
    }
    return sentence.get(place);
  }

  int entries(int order) {
    needOrder(order, 1);
    return entriesOf(order).size();
  }

  int entryAt(int order, int entry, int place) {
    needOrder(order, 1);
    List<List<Integer>> rows = entriesOf(order);
    if (entry < 0 || entry >= rows.size() || place < 0 || place > order - 1) {
      throw new IndexOutOfBoundsException();
    }
    return rows.get(entry).get(place);
  }

  int countOf(int order, int entry) {
    needOrder(order, 1);
    List<List<Integer>> rows = entriesOf(order);
    if (entry < 0 || entry >= rows.size()) {
      throw new IndexOutOfBoundsException();
    }
    return counts.get(rows.get(entry));
  }

  int ofContext(int order, int what) {
    needOrder(order, 1);
    if (what != 0 && what != 1) {
      throw new IllegalArgumentException();
    }
    List<Integer> h = lastOf(sentence, order - 1);
    int c = 0;
    int t = 0;
    for (int w = 0; w <= v; w++) {
      c += plainCount(h, w);
      t += plainCount(h, w) > 0 ? 1 : 0;
    }
    return what == 0 ? c : t;
  }

  int prune(int order, int least) {
    needOrder(order, 2);
    if (least < 1 || least > 1000) {
      throw new IllegalArgumentException();
    }
    int before = counts.size();
    counts.entrySet().removeIf(e -> e.getKey().size() == order && e.getValue() < least);
    return before - counts.size();
  }

  int pruneBy(int order, int parts) {
    needOrder(order, 2);
    if (parts < 1 || parts > UNIT) {
      throw new IllegalArgumentException();
    }
    List<List<Integer>> gone = new ArrayList<>();
    for (List<Integer> row : entriesOf(order)) {
      List<Integer> h = row.subList(0, order - 1);
      int w = row.get(order - 1);
      if (Math.abs(p(w, h) - p(w, withoutFirst(h))) < parts) {
        gone.add(row);
      }
    }
    counts.keySet().removeAll(gone);
    return gone.size();
  }

  int setWay(int newWay, int number) {
    if (newWay < 0 || newWay > 4 || number < 1 || number > 1000) {
      throw new IllegalArgumentException();
    }
    int before = way;
    way = newWay;
    k = number;
    return before;
  }

  int chance(int word) {
    if (word < 0 || word > v) {
      throw new IndexOutOfBoundsException();
    }
    return (int) chanceBehind(sentence, word);
  }

  int ranked(int rank) {
    if (rank < 0 || rank > v) {
      throw new IndexOutOfBoundsException();
    }
    return byRank().get(rank);
  }

  int score() {
    return (int) scoreOf(sentence);
  }

  double meanCost() {
    return (double) scoreOf(sentence) / (sentence.size() + 1);
  }

  // Of rows that go on from the same last N - 1 WORDS the best end is the same one, so it is
  // sought once for each such CONTEXT and number of WORDS to come.
  private final Map<List<Integer>, long[]> ends = new HashMap<>();

  /** The least cost of so many WORDS and the END behind a row, and the first of these WORDS. */
  private long[] bestEnd(List<Integer> row, int more) {
    List<Integer> context = lastOf(row, n - 1);
    List<Integer> key = with(context, more);
    if (!ends.containsKey(key)) {
      long[] best = {cost(p(v, context)), -1};
      for (int w = 0; more > 0 && w < v; w++) {
        long whole = cost(p(w, context)) + bestEnd(with(row, w), more - 1)[0];
        if (w == 0 || whole < best[0]) {
          best = new long[] {whole, w};
        }
      }
      ends.put(key, best);
    }
    return ends.get(key);
  }

  int complete(int length) {
    if (length < sentence.size() || length > 12) {
      throw new IllegalArgumentException();
    }
    if (v == 0) {
      throw new IllegalStateException();
    }
    ends.clear();
    while (sentence.size() < length) {
      sentence.add((int) bestEnd(sentence, length - sentence.size())[1]);
    }
    return score();
  }

  /** The same by trying every row, for few WORDS and places. */
  List<Integer> bestOfAll(int length) {
    List<Integer> best = null;
    int[] row = new int[length];
    for (int at = 0; at < sentence.size(); at++) {
      row[at] = sentence.get(at);
    }
    long all = Math.round(Math.pow(v, length - sentence.size()));
    for (long turn = 0; turn < all; turn++) {
      long rest = turn;
      for (int at = length - 1; at >= sentence.size(); at--) {
        row[at] = (int) (rest % v);
        rest /= v;
      }
      List<Integer> tried = new ArrayList<>();
      for (int w : row) {
        tried.add(w);
      }
      if (best == null || scoreOf(tried) < scoreOf(best)) {
        best = tried;
      }
    }
    return best;
  }

  int setLuck(int newLuck) {
    if (newLuck < 0 || newLuck > 9999) {
      throw new IllegalArgumentException();
    }
    int before = luck;
    luck = newLuck;
    return before;
  }

  int addStep(int code, int a) {
    boolean fits = code == 0 || code == 1;
    fits |= code == 2 && a >= 0 && a < v;
    fits |= code == 4 && a >= 0 && a <= v;
    fits |= (code == 3 || code == 5) && a >= 1 && a <= 12;
    if (!fits) {
      throw new IllegalArgumentException();
    }
    if (script.size() == 12) {
      throw new IllegalStateException();
    }
    script.add(new int[] {code, a});
    return script.size() - 1;
  }

  int clearScript() {
    int before = script.size();
    script.clear();
    return before;
  }

  int runScript() {
    if (v == 0 || script.isEmpty()) {
      throw new IllegalStateException();
    }
    ended = false;
    int[] jumps = new int[script.size()];
    int at = 0;
    while (!ended && sentence.size() < 12 && at < script.size()) {
      int[] step = script.get(at);
      if (step[0] == 5) {
        if (jumps[at] < step[1]) {
          jumps[at]++;
          at = 0;
        } else {
          at++;
        }
        continue;
      }
      int taken = takenBy(step[0], step[1]);
      if (taken == v) {
        ended = true;
      } else {
        sentence.add(taken);
      }
      at++;
    }
    return sentence.size();
  }

  private int takenBy(int code, int a) {
    List<Integer> all = byRank();
    if (code == 0) {
      return drawOf(all);
    }
    if (code == 1) {
      return all.get(0);
    }
    if (code == 2) {
      return a;
    }
    if (code == 3) {
      return drawOf(all.subList(0, Math.min(a, all.size())));
    }
    all.remove(Integer.valueOf(a));
    return drawOf(all);
  }

  int scoreLearned(int times) {
    if (times < 1 || times > 100) {
      throw new IllegalArgumentException();
    }
    if (v == 0) {
      throw new IllegalStateException();
    }
    Map<List<Integer>, Integer> before = counts;
    counts = new HashMap<>(before);
    addTo(counts, times);
    int answer = score();
    counts = before;
    return answer;
  }

  int scoreBy(int newWay, int number) {
    int wayBefore = way;
    int numberBefore = k;
    setWay(newWay, number);
    int answer = score();
    way = wayBefore;
    k = numberBefore;
    return answer;
  }

  int wouldDraw() {
    if (v == 0) {
      throw new IllegalStateException();
    }
    int luckBefore = luck;
    int drawsBefore = draws;
    int answer = drawOf(byRank());
    luck = luckBefore;
    draws = drawsBefore;
    return answer;
  }

  long digest() {
    List<Long> numbers = new ArrayList<>(Arrays.asList((long) v, (long) n, (long) sentence.size()));
    for (int w : sentence) {
      numbers.add((long) w);
    }
    for (int order = 1; order <= n; order++) {
      List<List<Integer>> rows = entriesOf(order);
      numbers.add((long) rows.size());
      for (List<Integer> row : rows) {
        for (int part : row) {
          numbers.add((long) part);
        }
        numbers.add((long) counts.get(row));
      }
    }
    for (int order = 1; order <= n; order++) {
      numbers.add((long) ofContext(order, 0));
      numbers.add((long) ofContext(order, 1));
    }
    for (int w = 0; w <= v; w++) {
      numbers.add((long) chance(w));
    }
    for (int w : byRank()) {
      numbers.add((long) w);
    }
    numbers.add((long) score());
    numbers.add((long) luck);
    numbers.add((long) draws);
    numbers.add(ended ? 1L : 0L);
    long d = 58041;
    for (long x : numbers) {
      d = d * 31 + x;
    }
    return d;
  }
}
