import java.util.Random;
import java.util.TreeSet;

/**
 * Every argument of every call at every edge that the document names and far beyond it, in rows of the lengths that
 * it names: the class must answer as the slow model does, and a call that is refused must leave no trace.
 */
public final class MajorityIndexEdges {
  /**
   * What each argument is, by the calls' numbers: b bits, n a length, k slots, o a place or N, p a place, v a value,
   * l and r a range, L and R a second one, i an index, w a what, s and t a share, c the places of a window.
   */
  private static final String[] KINDS = {"bb", "n", "k", "pv", "lrv", "lr", "pp", "ov", "p",
    "p", "vlr", "vi", "", "lr", "lriw", "lr", "lr", "piw", "p", "lr", "lriw",
    "lrw", "lriw", "vlr", "lr", "lrst", "lrstiw", "lrst", "lrst", "lr", "vlr", "lrLRst",
    "lrLRsti", "vstw", "p", "lr", "lr", "", "cstw", "vlrst", "vlrst", "pvlr", "lrvw",
    "w"};
  private static final int CALLS_AT_MOST = 512;
  private static final int[] LENGTHS = {0, 1, 2, 3, 8, 41, 65, 157, 160};
  private static int wrong = 0;
  private static int made = 0;

  private final int[] row;
  private final int slots;
  private final Random random;
  private final int[] edges;
  private final Model asked;
  private MajorityIndex real;
  private int calls;

  private MajorityIndexEdges(int length, int slots) {
    this.slots = slots;
    random = new Random(31 * length + slots);
    row = new int[length];
    for (int i = 0; i < length; i++) {
      row[i] = random.nextInt(20) == 0 ? -32768 : random.nextInt(20) == 0 ? 32767 : random.nextInt(2 + 2 * slots) - 1;
    }
    edges = edgesFor(length);
    asked = newModel();
    real = newReal();
    calls = callsToMake();
  }

  public static void main(String[] args) {
    for (int length : LENGTHS) {
      for (int slots = 1; slots <= 6; slots++) {
        if (length <= 8 || slots == 1 + length % 6) {
          new MajorityIndexEdges(length, slots).sweep();
        }
      }
    }
    System.out.println(wrong == 0 ? made + " answers are as due" : wrong + " of " + made + " answers are not as due");
    if (wrong != 0) {
      System.exit(1);
    }
  }

  private static int[] edgesFor(int length) {
    TreeSet<Integer> all = new TreeSet<>();
    int[] named = {0, 1, 2, 3, 5, 6, 7, length - 1, length, length + 1, 40, 41, 64, 65, 156, 157, 160, 161, 999, 1000,
      32767, 32768, -32768, -32769, 40000, -40000, 65536, 65537, 1 << 30};
    for (int edge : named) {
      all.add(edge);
    }
    for (int far = 0; far < 2; far++) {
      all.add(Integer.MIN_VALUE + far);
      all.add(Integer.MAX_VALUE - far);
      all.add(-1 - far);
    }
    return all.stream().mapToInt(edge -> edge).toArray();
  }

  private void sweep() {
    for (int call = 0; call < Calls.NAMES.length && wrong < 20; call++) {
      int bases = row.length <= 8 ? 4 : 5;
      for (int base = 0; base < bases; base++) {
        int[] a = rightCall(call);
        ask(a);
        eachArgument(a);
        if (row.length == 1 || row.length == 3) {
          eachTwoArguments(a);
        }
      }
    }
  }

  private void eachArgument(int[] right) {
    for (int at = 1; at < right.length; at++) {
      for (int edge : edges) {
        int[] a = right.clone();
        a[at] = edge;
        ask(a);
      }
    }
  }

  private void eachTwoArguments(int[] right) {
    for (int at = 1; at < right.length; at++) {
      for (int other = at + 1; other < right.length; other++) {
        for (int edge : edges) {
          for (int otherEdge : edges) {
            int[] a = right.clone();
            a[at] = edge;
            a[other] = otherEdge;
            ask(a);
          }
        }
      }
    }
  }

  private void ask(int[] a) {
    if (a[0] < Calls.FIRST_QUESTION) {
      change(a);
    } else {
      if (calls == CALLS_AT_MOST) {
        real = newReal();
        calls = callsToMake();
      }
      compare(a, real, asked);
      calls++;
    }
  }

  /** On an object of its own, which is looked at as a whole behind the call. */
  private void change(int[] a) {
    MajorityIndex changed = newReal();
    Model model = newModel();
    // The tree is laid ahead of the change or is not: its answers may not depend on that.
    if (made % 2 == 0) {
      compare(new int[] {43, 6}, changed, model);
    }
    compare(a, changed, model);
    for (int what = 0; what <= 6; what++) {
      compare(new int[] {43, what}, changed, model);
    }
    int length = model.row.size();
    for (int i = 0; i < 3; i++) {
      compare(new int[] {14, 0, length, i, 0}, changed, model);
      compare(new int[] {14, 0, length, i, 1}, changed, model);
    }
    for (int i = 0; i <= length; i++) {
      compare(new int[] {9, i}, changed, model);
    }
  }

  private void compare(int[] a, MajorityIndex x, Model model) {
    long want = Calls.modelAnswer(model, a);
    long got = Calls.realAnswer(x, a);
    made++;
    if (got != want && wrong < 20) {
      wrong++;
      System.out.println(Calls.text(a) + " answered " + Calls.text(got) + ", due is " + Calls.text(want) + " with K "
          + model.k + " and " + model.row);
    }
  }

  private MajorityIndex newReal() {
    MajorityIndex x = new MajorityIndex();
    int i = 0;
    for (; i + 4 <= row.length; i += 4) {
      x.feed(row[i] << 16 | row[i + 1] & 0xffff, row[i + 2] << 16 | row[i + 3] & 0xffff);
    }
    for (; i < row.length; i++) {
      x.insert(i, row[i]);
    }
    x.slots(slots);
    return x;
  }

  private int callsToMake() {
    return row.length / 4 + row.length % 4 + 1;
  }

  private Model newModel() {
    Model model = new Model();
    for (int value : row) {
      model.row.add(value);
    }
    model.k = slots;
    return model;
  }

  /** A call that the document answers, as far as the row is long enough for one. */
  private int[] rightCall(int call) {
    String kinds = KINDS[call];
    int[] a = new int[kinds.length() + 1];
    a[0] = call;
    for (int at = 1; at < a.length; at++) {
      a[at] = rightArgument(kinds.charAt(at - 1), a[at - 1]);
    }
    if (call == 31 || call == 32) {
      partRanges(a);
    }
    return a;
  }

  private int rightArgument(char kind, int ahead) {
    int length = row.length;
    switch (kind) {
      case 'b': return random.nextInt();
      case 'n':
      case 'o': return random.nextInt(length + 1);
      case 'k': return 1 + random.nextInt(6);
      case 'p':
      case 'l':
      case 'L': return length == 0 ? 0 : random.nextInt(length);
      case 'r':
      case 'R': return length == 0 ? 1 : Math.min(length, ahead + 1 + random.nextInt(40));
      case 'v': return length == 0 ? 7 : row[random.nextInt(length)];
      case 's': return 1 + random.nextInt(4);
      case 't': return ahead + random.nextInt(ahead * slots + 1);
      case 'c': return 1 + random.nextInt(Math.max(1, length));
      default: return random.nextInt(2);
    }
  }

  /** Two ranges that have no place together, if there are places for two. */
  private void partRanges(int[] a) {
    if (row.length > 1) {
      int m = 1 + random.nextInt(row.length - 1);
      a[1] = random.nextInt(m);
      a[2] = m;
      a[3] = m;
      a[4] = m + 1 + random.nextInt(row.length - m);
    }
  }
}
