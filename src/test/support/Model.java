import java.util.ArrayList;
import java.util.Collections;
import java.util.Comparator;
import java.util.HashMap;
import java.util.List;
import java.util.Map;
import java.util.TreeMap;
import java.util.TreeSet;

/** A slow MajorityIndex that works straight from the document's words: everything is made anew for each question. */
final class Model {
  static final long THROWS = Long.MIN_VALUE;
  static final int NONE = -1;
  static final int NO_VALUE = -40000;

  final List<Integer> row = new ArrayList<>();
  int k = 2;

  boolean isPlace(int p) {
    return p >= 0 && p < row.size();
  }

  boolean isRange(int l, int r) {
    return 0 <= l && l < r && r <= row.size();
  }

  int feed(int a, int b) {
    if (row.size() > 156) {
      return NONE;
    }
    Collections.addAll(row, (int) (short) (a >>> 16), (int) (short) a, (int) (short) (b >>> 16), (int) (short) b);
    return row.size();
  }

  int end(int n) {
    if (n < 0 || n > row.size()) {
      return NONE;
    }
    row.subList(n, row.size()).clear();
    return n;
  }

  int slots(int now) {
    if (now < 1 || now > 6) {
      return NONE;
    }
    int was = k;
    k = now;
    return was;
  }

  int insert(int place, int v) {
    if (place < 0 || place > row.size() || !isValue(v) || row.size() == 160) {
      return NONE;
    }
    row.add(place, v);
    return row.size();
  }

  Sum nodeSum(int l, int r, int slots) {
    if (r - l == 1) {
      Sum s = new Sum();
      s.votes.put(row.get(l), 1);
      return s;
    }
    int m = (l + r) / 2;
    return Sum.together(nodeSum(l, m, slots), nodeSum(m, r, slots), slots);
  }

  void nodesUnder(int l, int r, List<int[]> into) {
    into.add(new int[] {l, r});
    if (r - l > 1) {
      nodesUnder(l, (l + r) / 2, into);
      nodesUnder((l + r) / 2, r, into);
    }
  }

  List<int[]> nodes() {
    List<int[]> all = new ArrayList<>();
    if (!row.isEmpty()) {
      nodesUnder(0, row.size(), all);
    }
    return all;
  }

  boolean isNode(int l, int r) {
    return nodes().stream().anyMatch(x -> x[0] == l && x[1] == r);
  }

  Map<Integer, Sum> snapshot() {
    Map<Integer, Sum> all = new HashMap<>();
    for (int[] x : nodes()) {
      all.put(x[0] * 1000 + x[1], nodeSum(x[0], x[1], k));
    }
    return all;
  }

  int others(Map<Integer, Sum> before) {
    int many = 0;
    for (Map.Entry<Integer, Sum> e : snapshot().entrySet()) {
      many += e.getValue().like(before.get(e.getKey())) ? 0 : 1;
    }
    return many;
  }

  int filled(int l, int r, int v) {
    Map<Integer, Sum> before = snapshot();
    Collections.fill(row.subList(l, r), v);
    return others(before);
  }

  int turned(int l, int r) {
    Map<Integer, Sum> before = snapshot();
    Collections.reverse(row.subList(l, r));
    return others(before);
  }

  int swapped(int i, int j) {
    Map<Integer, Sum> before = snapshot();
    Collections.swap(row, i, j);
    return others(before);
  }

  int often(int v, int l, int r) {
    return Collections.frequency(row.subList(l, r), v);
  }

  int kth(int v, int index) {
    List<Integer> where = new ArrayList<>();
    for (int i = 0; i < row.size(); i++) {
      if (row.get(i) == v) {
        where.add(i);
      }
    }
    return index >= 0 && index < where.size() ? where.get(index) : NONE;
  }

  int nodeAnswer(int l, int r, int what) {
    if (!isRange(l, r)) {
      return NONE;
    }
    if (!isNode(l, r)) {
      return -2;
    }
    Sum s = nodeSum(l, r, k);
    return what == 0 ? s.votes.size() : what == 1 ? s.loss : s.by;
  }

  long vote(int l, int r, int i, int what) {
    if (!isRange(l, r) || !isNode(l, r) || what < 0 || what > 1) {
      return THROWS;
    }
    List<int[]> told = nodeSum(l, r, k).told();
    return i < 0 || i >= told.size() ? THROWS : told.get(i)[what];
  }

  List<int[]> path(int place) {
    List<int[]> path = new ArrayList<>();
    for (int[] x : nodes()) {
      if (x[0] <= place && place < x[1]) {
        path.add(x);
      }
    }
    path.sort(Comparator.comparingInt(x -> x[0] - x[1]));
    return path;
  }

  int numberAt(int[] node, int place) {
    return nodeSum(node[0], node[1], k).votes.getOrDefault(row.get(place), 0);
  }

  int above(int place, int i, int what) {
    if (!isPlace(place)) {
      return NONE;
    }
    List<int[]> path = path(place);
    if (i == NONE) {
      return path.size();
    }
    if (i < 0 || i >= path.size() || what < 0 || what > 2) {
      return NONE;
    }
    return what < 2 ? path.get(i)[what] : numberAt(path.get(i), place);
  }

  int holds(int place) {
    if (!isPlace(place)) {
      return NONE;
    }
    List<int[]> path = path(place);
    Collections.reverse(path);
    int many = 0;
    while (many < path.size() && numberAt(path.get(many), place) > 0) {
      many++;
    }
    return many;
  }

  /** Fewest nodes, found as a shortest way over all nodes from l to r. */
  List<int[]> partsOf(int l, int r) {
    List<int[]> all = nodes();
    Map<Integer, List<int[]>> best = new HashMap<>();
    best.put(l, new ArrayList<>());
    for (int i = l; i < r; i++) {
      for (int[] x : all) {
        if (x[0] == i && x[1] <= r) {
          List<int[]> way = new ArrayList<>(best.get(i));
          way.add(x);
          if (!best.containsKey(x[1]) || best.get(x[1]).size() > way.size()) {
            best.put(x[1], way);
          }
        }
      }
    }
    return best.get(r);
  }

  int part(int l, int r, int i, int what) {
    if (!isRange(l, r) || what < 0 || what > 1) {
      return NONE;
    }
    List<int[]> parts = partsOf(l, r);
    return i < 0 || i >= parts.size() ? NONE : parts.get(i)[what];
  }

  Sum rangeSum(int l, int r, int slots) {
    Sum s = null;
    for (int[] x : partsOf(l, r)) {
      Sum next = nodeSum(x[0], x[1], slots);
      s = s == null ? next : Sum.together(s, next, slots);
    }
    return s;
  }

  static int numbers(Sum s) {
    return s.votes.values().stream().mapToInt(c -> c).sum();
  }

  int summary(int l, int r, int what) {
    if (!isRange(l, r) || what < 0 || what > 2) {
      return NONE;
    }
    Sum s = rangeSum(l, r, k);
    return what == 0 ? s.votes.size() : what == 1 ? numbers(s) : s.loss;
  }

  long candidate(int l, int r, int i, int what) {
    if (!isRange(l, r) || what < 0 || what > 2) {
      return THROWS;
    }
    List<int[]> told = rangeSum(l, r, k).told();
    if (i < 0 || i >= told.size()) {
      return THROWS;
    }
    return what < 2 ? told.get(i)[what] : often(told.get(i)[0], l, r);
  }

  int lost(int v, int l, int r) {
    if (!isRange(l, r) || !isValue(v)) {
      return NONE;
    }
    return often(v, l, r) - rangeSum(l, r, k).votes.getOrDefault(v, 0);
  }

  int surely(int l, int r) {
    if (!isRange(l, r)) {
      return NO_VALUE;
    }
    Sum s = rangeSum(l, r, k);
    List<int[]> told = s.told();
    if (told.isEmpty() || told.get(0)[1] <= s.loss) {
      return NO_VALUE;
    }
    return told.size() > 1 && told.get(0)[1] <= told.get(1)[1] + s.loss ? NO_VALUE : told.get(0)[0];
  }

  boolean enough(int p, int q) {
    return p * (k + 1) >= q;
  }

  /** All heavy ones of a list of values, counted outright. */
  static List<int[]> heavyOf(List<Integer> some, int p, int q) {
    List<int[]> list = new ArrayList<>();
    for (int v : new TreeSet<>(some)) {
      int c = Collections.frequency(some, v);
      if (c * q > p * some.size()) {
        list.add(new int[] {v, c});
      }
    }
    list.sort(Comparator.comparingInt((int[] x) -> -x[1]).thenComparingInt(x -> x[0]));
    return list;
  }

  int heavy(int l, int r, int p, int q) {
    if (!isRange(l, r) || !isShare(p, q)) {
      return NONE;
    }
    return enough(p, q) ? heavyOf(row.subList(l, r), p, q).size() : -2;
  }

  long heavyAt(int l, int r, int p, int q, int i, int what) {
    if (heavy(l, r, p, q) <= i || i < 0 || what < 0 || what > 1) {
      return THROWS;
    }
    return heavyOf(row.subList(l, r), p, q).get(i)[what];
  }

  int failed(int l, int r, int p, int q) {
    int many = heavy(l, r, p, q);
    if (many < 0) {
      return many;
    }
    int fail = 0;
    for (int v : rangeSum(l, r, k).votes.keySet()) {
      fail += often(v, l, r) * q > p * (r - l) ? 0 : 1;
    }
    return fail;
  }

  int least(int l, int r, int p, int q) {
    if (!isRange(l, r) || r - l > 64 || !isShare(p, q)) {
      return NONE;
    }
    List<int[]> due = heavyOf(row.subList(l, r), p, q);
    for (int slots = 1; slots <= 6; slots++) {
      Sum s = rangeSum(l, r, slots);
      if (due.stream().allMatch(x -> s.votes.containsKey(x[0]))) {
        return slots;
      }
    }
    return -2;
  }

  static int majorityOf(List<Integer> some) {
    List<int[]> list = heavyOf(some, 1, 2);
    return list.isEmpty() ? NO_VALUE : list.get(0)[0];
  }

  int majority(int l, int r) {
    Map<Integer, Integer> often = new HashMap<>();
    for (int v : row.subList(l, r)) {
      often.merge(v, 1, Integer::sum);
    }
    for (Map.Entry<Integer, Integer> e : often.entrySet()) {
      if (2 * e.getValue() > r - l) {
        return e.getKey();
      }
    }
    return NO_VALUE;
  }

  int both(int l, int r, int l2, int r2, int p, int q) {
    if (!isRange(l, r) || !isRange(l2, r2) || !isShare(p, q)) {
      return NONE;
    }
    if (!enough(p, q)) {
      return -2;
    }
    for (int i = l; i < r; i++) {
      if (l2 <= i && i < r2) {
        return -3;
      }
    }
    return heavyOf(two(l, r, l2, r2), p, q).size();
  }

  List<Integer> two(int l, int r, int l2, int r2) {
    List<Integer> some = new ArrayList<>(row.subList(l, r));
    some.addAll(row.subList(l2, r2));
    return some;
  }

  int bothAt(int[] a) {
    int many = both(a[1], a[2], a[3], a[4], a[5], a[6]);
    if (a[7] < 0 || a[7] >= many) {
      return NO_VALUE;
    }
    return heavyOf(two(a[1], a[2], a[3], a[4]), a[5], a[6]).get(a[7])[0];
  }

  int longest(int v, int p, int q, int what) {
    if (!isValue(v) || !isShare(p, q) || what < 0 || what > 1) {
      return NONE;
    }
    for (int length = row.size(); length > 0; length--) {
      for (int l = 0; l + length <= row.size(); l++) {
        if (often(v, l, l + length) * q > p * length) {
          return what == 0 ? l : l + length;
        }
      }
    }
    return NONE;
  }

  int reach(int l) {
    if (!isPlace(l)) {
      return NONE;
    }
    int r = row.size();
    while (majority(l, r) == NO_VALUE) {
      r--;
    }
    return r;
  }

  int parted(int l, int r) {
    int[] few = new int[r + 1];
    for (int end = l + 1; end <= r; end++) {
      few[end] = Integer.MAX_VALUE;
      for (int start = l; start < end; start++) {
        if (few[start] + 1 < few[end] && majority(start, end) != NO_VALUE) {
          few[end] = few[start] + 1;
        }
      }
    }
    return few[r];
  }

  int cut(int l, int r) {
    for (int m = l + 1; m < r; m++) {
      int a = majority(l, m);
      int b = majority(m, r);
      if (a != NO_VALUE && b != NO_VALUE && a != b) {
        return m;
      }
    }
    return NONE;
  }

  int majorities() {
    int many = 0;
    for (int l = 0; l < row.size(); l++) {
      for (int r = l + 1; r <= row.size(); r++) {
        many += majority(l, r) == NO_VALUE ? 0 : 1;
      }
    }
    return many;
  }

  int windows(int w, int p, int q, int what) {
    if (what < 0 || what > 2) {
      return NONE;
    }
    if (w < 1 || w > row.size() || !isShare(p, q)) {
      return what == 1 ? NO_VALUE : NONE;
    }
    int some = 0;
    TreeMap<Integer, Integer> in = new TreeMap<>();
    for (int l = 0; l + w <= row.size(); l++) {
      List<int[]> list = heavyOf(row.subList(l, l + w), p, q);
      some += list.isEmpty() ? 0 : 1;
      list.forEach(x -> in.merge(x[0], 1, Integer::sum));
    }
    if (what == 0) {
      return some;
    }
    int most = in.values().stream().mapToInt(c -> c).max().orElse(0);
    if (what == 2) {
      return most;
    }
    return in.entrySet().stream().filter(e -> e.getValue() == most).mapToInt(Map.Entry::getKey).min()
        .orElse(NO_VALUE);
  }

  int needs(int[] a) {
    if (!isValue(a[1]) || !isRange(a[2], a[3]) || !isShare(a[4], a[5])) {
      return NONE;
    }
    int length = a[3] - a[2];
    int c = often(a[1], a[2], a[3]);
    for (int more = 0; c + more <= length; more++) {
      if ((c + more) * a[5] > a[4] * length) {
        return more;
      }
    }
    return -2;
  }

  int spares(int[] a) {
    if (!isValue(a[1]) || !isRange(a[2], a[3]) || !isShare(a[4], a[5])) {
      return NONE;
    }
    int c = often(a[1], a[2], a[3]);
    int less = 0;
    while ((c - less) * a[5] > a[4] * (a[3] - a[2])) {
      less++;
    }
    return less;
  }

  int would(int place, int v, int l, int r) {
    if (!isPlace(place) || !isValue(v) || !isRange(l, r)) {
      return NO_VALUE;
    }
    List<Integer> changed = new ArrayList<>(row);
    changed.set(place, v);
    return majorityOf(changed.subList(l, r));
  }

  int swings(int l, int r, int v, int what) {
    if (!isRange(l, r) || r - l > 40 || !isValue(v) || what < 0 || what > 1) {
      return NONE;
    }
    int best = -1;
    int where = NONE;
    for (int i = l; i < r; i++) {
      int own = row.set(i, v);
      int total = numbers(nodeSum(0, row.size(), k));
      row.set(i, own);
      if (total > best) {
        best = total;
        where = i;
      }
    }
    return what == 0 ? where : best;
  }

  int depth(int l, int r) {
    int m = (l + r) / 2;
    return r == l ? 0 : r - l == 1 ? 1 : 1 + Math.max(depth(l, m), depth(m, r));
  }

  int told(int what) {
    switch (what) {
      case 0: return row.size();
      case 1: return k;
      case 2: return nodes().size();
      case 3: return (int) nodes().stream().filter(x -> majority(x[0], x[1]) != NO_VALUE).count();
      case 4: return depth(0, row.size());
      case 5: return row.isEmpty() ? 0 : nodeSum(0, row.size(), k).loss;
      case 6: return nodes().stream().mapToInt(x -> nodeSum(x[0], x[1], k).loss).sum();
      default: return NONE;
    }
  }

  static boolean isValue(int v) {
    return v == (short) v;
  }

  static boolean isShare(int p, int q) {
    return 1 <= p && p <= 999 && p <= q && q <= 999;
  }

  /** A summary: values with numbers, and a loss; by is what the last cancelling took. */
  static final class Sum {
    TreeMap<Integer, Integer> votes = new TreeMap<>();
    int loss;
    int by;

    List<int[]> told() {
      List<int[]> list = new ArrayList<>();
      for (Map.Entry<Integer, Integer> e : votes.entrySet()) {
        list.add(new int[] {e.getKey(), e.getValue()});
      }
      list.sort(Comparator.comparingInt((int[] v) -> -v[1]).thenComparingInt(v -> v[0]));
      return list;
    }

    boolean like(Sum o) {
      return votes.equals(o.votes) && loss == o.loss;
    }

    static Sum together(Sum a, Sum b, int k) {
      Sum s = new Sum();
      s.votes.putAll(a.votes);
      b.votes.forEach((v, c) -> s.votes.merge(v, c, Integer::sum));
      s.loss = a.loss + b.loss;
      if (s.votes.size() > k) {
        s.by = s.told().get(k)[1];
        s.loss += s.by;
        TreeMap<Integer, Integer> less = new TreeMap<>();
        s.votes.forEach((v, c) -> {
          if (c > s.by) {
            less.put(v, c - s.by);
          }
        });
        s.votes = less;
      }
      return s;
    }
  }
}
