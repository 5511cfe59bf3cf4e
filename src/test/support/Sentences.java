import java.io.IOException;
import java.nio.file.Files;
import java.nio.file.Path;
import java.util.ArrayList;
import java.util.List;
import java.util.NoSuchElementException;
import java.util.TreeSet;

/**
 * Tests that go by sentences of the document: each begins with the words that it holds the class to, and these are
 * looked up in the document, so that a test never asks for what does not stand there.
 */
final class Sentences {
  static final long THROWS = Model.THROWS;
  static final int MIN = Integer.MIN_VALUE;
  static final int MAX = Integer.MAX_VALUE;
  static final int NO_VALUE = -40000;
  /** 65541 and -65531 are 5 in their lower 16 bits. */
  private static final int[] WRONG_VALUES = {-32769, 32768, -40000, 40000, 65541, -65531, MIN, MAX};
  private static final int[][] WRONG_RANGES_OF_8 = {{-1, 4}, {-1, 0}, {-1, 8}, {MIN, 4}, {0, 0}, {3, 3}, {8, 8}, {4, 3},
    {8, 0}, {0, 9}, {7, 9}, {8, 9}, {9, 10}, {0, MAX}, {7, MIN}, {MAX, MAX}, {MIN, MIN}, {MIN, MAX}, {MAX, MIN}};
  private static final int[][] WRONG_SHARES = {{0, 1}, {0, 0}, {-1, 2}, {-1, -1}, {2, 1}, {999, 998}, {1, 0}, {1, -1},
    {1, 1000}, {999, 1000}, {1000, 1000}, {1000, 999}, {MIN, 1}, {1, MIN}, {1, MAX}, {MIN, MAX}, {MAX, MIN},
    {MIN, MIN}, {MAX, MAX}, {1 << 30, 1 << 30}, {65537, 65538}};

  private final String document;
  private final TreeSet<String> sections = new TreeSet<>();
  private String title = "";
  private int sentences = 0;
  private int made = 0;
  private int wrong = 0;

  Sentences() throws IOException {
    document = Files.readString(Path.of("../shared/DOC.md"));
  }

  interface Maker {
    MajorityIndex make();
  }

  interface Call {
    int answer(MajorityIndex x);
  }

  interface CallOfTwo {
    int answer(MajorityIndex x, int a, int b);
  }

  interface CallOfOne {
    int answer(MajorityIndex x, int a);
  }

  /** Begins a test: what follows holds the class to these words of that section. */
  void sentence(String section, String words) {
    title = section + ", \"" + words + "\"";
    sections.add(section);
    sentences++;
    int begin = document.indexOf("\n## " + section);
    int end = begin < 0 ? -1 : document.indexOf("\n## ", begin + 1);
    if (begin < 0 || !document.substring(begin, end < 0 ? document.length() : end).contains(words)) {
      fault("the document does not say so");
    }
  }

  void promise(int number, String words) {
    sentence("Promise " + number + ":", words);
  }

  void mustHaveAllPromises() {
    for (int number = 1; number <= 45; number++) {
      title = "Promise " + number;
      if (!sections.contains("Promise " + number + ":")) {
        fault("no test");
      }
    }
  }

  void end() {
    System.out.println(sentences + " sentences, " + made + " answers, " + wrong + " not as due");
    if (wrong != 0) {
      System.exit(1);
    }
  }

  private void fault(String text) {
    wrong++;
    System.out.println(title + ": " + text);
  }

  void due(String call, long got, long want) {
    made++;
    if (got != want) {
      fault(call + " answered " + Calls.text(got) + ", due is " + Calls.text(want));
    }
  }

  void dueThrow(String call, MajorityIndex x, Call asked) {
    due(call, answerOf(x, asked), THROWS);
  }

  long answerOf(MajorityIndex x, Call asked) {
    try {
      return asked.answer(x);
    } catch (RuntimeException e) {
      return e.getClass() == NoSuchElementException.class ? THROWS : THROWS + 1;
    }
  }

  /** The call is answered so, and behind it the object is what it was ahead of it. */
  void leavesNoTrace(String call, Maker maker, Call asked, long want) {
    MajorityIndex x = maker.make();
    List<Long> before = picture(x);
    due(call, answerOf(x, asked), want);
    if (!before.equals(picture(x))) {
      fault(call + " has left a trace");
    }
  }

  void refusesWrongValues(String call, CallOfOne asked, long want) {
    for (int value : WRONG_VALUES) {
      leavesNoTrace(call + " of the value " + value, Sentences::eight, x -> asked.answer(x, value), want);
    }
  }

  void refusesWrongRanges(String call, CallOfTwo asked, long want) {
    for (int[] range : WRONG_RANGES_OF_8) {
      leavesNoTrace(call + " of the range " + range[0] + ", " + range[1], Sentences::eight,
          x -> asked.answer(x, range[0], range[1]), want);
    }
  }

  void refusesWrongShares(String call, CallOfTwo asked, long want) {
    for (int[] share : WRONG_SHARES) {
      leavesNoTrace(call + " of the share " + share[0] + ", " + share[1], Sentences::eight,
          x -> asked.answer(x, share[0], share[1]), want);
    }
  }

  /** Of the numbers, each alone outside what is asked for. */
  void refuses(String call, Maker maker, CallOfOne asked, long want, int... numbers) {
    for (int number : numbers) {
      leavesNoTrace(call + " of " + number, maker, x -> asked.answer(x, number), want);
    }
  }

  void rowIs(MajorityIndex x, int... values) {
    due("told(0)", x.told(0), values.length);
    for (int i = 0; i < values.length; i++) {
      int place = i;
      due("at(" + i + ")", answerOf(x, y -> y.at(place)), values[i]);
    }
    dueThrow("at(N)", x, y -> y.at(values.length));
  }

  /** All that can be seen of a short row; of a long one its values and what told() sums up. */
  List<Long> picture(MajorityIndex x) {
    List<Long> all = new ArrayList<>();
    for (int what = 0; what <= 6; what++) {
      all.add((long) x.told(what));
    }
    int length = x.told(0);
    for (int i = 0; i < length; i++) {
      all.add((long) x.at(i));
    }
    if (length > 0 && length <= 12) {
      addNodes(x, 0, length, all);
    }
    return all;
  }

  private void addNodes(MajorityIndex x, int l, int r, List<Long> all) {
    int votes = x.node(l, r);
    all.add((long) votes);
    all.add((long) x.loss(l, r));
    all.add((long) x.cancelled(l, r));
    for (int i = 0; i < votes; i++) {
      all.add((long) x.vote(l, r, i, 0));
      all.add((long) x.vote(l, r, i, 1));
    }
    if (r - l > 1) {
      addNodes(x, l, (l + r) / 2, all);
      addNodes(x, (l + r) / 2, r, all);
    }
  }

  static MajorityIndex of(int... values) {
    MajorityIndex x = new MajorityIndex();
    int i = 0;
    for (; i + 4 <= values.length; i += 4) {
      x.feed(values[i] << 16 | values[i + 1] & 0xffff, values[i + 2] << 16 | values[i + 3] & 0xffff);
    }
    for (; i < values.length; i++) {
      x.insert(i, values[i]);
    }
    return x;
  }

  static MajorityIndex by(int slots, int... values) {
    MajorityIndex x = of(values);
    x.slots(slots);
    return x;
  }

  /**
   * Nodes by K 2: (0,2) 5:2; (2,4) 9:2; (4,6) -3:1 9:1; (6,8) 5:2; (0,4) 5:2 9:2;
   * (4,8) 5:2 -3:1 9:1 less by 1: 5:1, loss 1; (0,8) 5:3 9:2, loss 1.
   */
  static MajorityIndex eight() {
    return of(5, 5, 9, 9, 9, -3, 5, 5);
  }

  static MajorityIndex alike(int length, int value) {
    int[] values = new int[length];
    java.util.Arrays.fill(values, value);
    return of(values);
  }

  static MajorityIndex unlike(int length) {
    int[] values = new int[length];
    for (int i = 0; i < length; i++) {
      values[i] = i - 3;
    }
    return of(values);
  }

  static MajorityIndex full() {
    return unlike(160);
  }
}
