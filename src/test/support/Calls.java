import java.util.Arrays;
import java.util.NoSuchElementException;
import java.util.TreeSet;

/** The calls of the face by numbers, put to the class and to the model: a[0] is the call, behind it its arguments. */
final class Calls {
  private static final int NONE = -1;
  private static final int NO_VALUE = -40000;
  private static final long THROWS = Model.THROWS;

  static final String[] NAMES = {"feed", "end", "slots", "set", "fill", "turn", "swap", "insert", "remove",
    "at", "count", "place", "values", "node", "vote", "loss", "cancelled", "above", "holds", "parts", "part",
    "summary", "candidate", "lost", "surely", "heavy", "heavyAt", "failed", "least", "majority", "margin", "both",
    "bothAt", "longest", "reach", "parted", "cut", "majorities", "windows", "needs", "spares", "would", "swings",
    "told"};

  /** The first that changes nothing. */
  static final int FIRST_QUESTION = 9;

  static String text(int[] a) {
    String arguments = Arrays.toString(Arrays.copyOfRange(a, 1, a.length));
    return NAMES[a[0]] + "(" + arguments.substring(1, arguments.length() - 1) + ")";
  }

  static String text(long answer) {
    return answer == THROWS ? "throws.NoSuchElementException" : answer == THROWS + 1 ? "throws" : "" + answer;
  }

  static long realAnswer(MajorityIndex x, int[] a) {
    try {
      return a[0] < 24 ? realFirst(x, a) : realSecond(x, a);
    } catch (RuntimeException e) {
      if (e.getClass() == NoSuchElementException.class) {
        return THROWS;
      }
      System.out.println(text(a) + " throws " + e);
      return THROWS + 1;
    }
  }

  private static long realFirst(MajorityIndex x, int[] a) {
    switch (a[0]) {
      case 0: return x.feed(a[1], a[2]);
      case 1: return x.end(a[1]);
      case 2: return x.slots(a[1]);
      case 3: return x.set(a[1], a[2]);
      case 4: return x.fill(a[1], a[2], a[3]);
      case 5: return x.turn(a[1], a[2]);
      case 6: return x.swap(a[1], a[2]);
      case 7: return x.insert(a[1], a[2]);
      case 8: return x.remove(a[1]);
      case 9: return x.at(a[1]);
      case 10: return x.count(a[1], a[2], a[3]);
      case 11: return x.place(a[1], a[2]);
      case 12: return x.values();
      case 13: return x.node(a[1], a[2]);
      case 14: return x.vote(a[1], a[2], a[3], a[4]);
      case 15: return x.loss(a[1], a[2]);
      case 16: return x.cancelled(a[1], a[2]);
      case 17: return x.above(a[1], a[2], a[3]);
      case 18: return x.holds(a[1]);
      case 19: return x.parts(a[1], a[2]);
      case 20: return x.part(a[1], a[2], a[3], a[4]);
      case 21: return x.summary(a[1], a[2], a[3]);
      case 22: return x.candidate(a[1], a[2], a[3], a[4]);
      default: return x.lost(a[1], a[2], a[3]);
    }
  }

  private static long realSecond(MajorityIndex x, int[] a) {
    switch (a[0]) {
      case 24: return x.surely(a[1], a[2]);
      case 25: return x.heavy(a[1], a[2], a[3], a[4]);
      case 26: return x.heavyAt(a[1], a[2], a[3], a[4], a[5], a[6]);
      case 27: return x.failed(a[1], a[2], a[3], a[4]);
      case 28: return x.least(a[1], a[2], a[3], a[4]);
      case 29: return x.majority(a[1], a[2]);
      case 30: return x.margin(a[1], a[2], a[3]);
      case 31: return x.both(a[1], a[2], a[3], a[4], a[5], a[6]);
      case 32: return x.bothAt(a[1], a[2], a[3], a[4], a[5], a[6], a[7]);
      case 33: return x.longest(a[1], a[2], a[3], a[4]);
      case 34: return x.reach(a[1]);
      case 35: return x.parted(a[1], a[2]);
      case 36: return x.cut(a[1], a[2]);
      case 37: return x.majorities();
      case 38: return x.windows(a[1], a[2], a[3], a[4]);
      case 39: return x.needs(a[1], a[2], a[3], a[4], a[5]);
      case 40: return x.spares(a[1], a[2], a[3], a[4], a[5]);
      case 41: return x.would(a[1], a[2], a[3], a[4]);
      case 42: return x.swings(a[1], a[2], a[3], a[4]);
      default: return x.told(a[1]);
    }
  }

  static long modelAnswer(Model m, int[] a) {
    switch (a[0]) {
      case 0: return m.feed(a[1], a[2]);
      case 1: return m.end(a[1]);
      case 2: return m.slots(a[1]);
      case 3: return m.isPlace(a[1]) && Model.isValue(a[2]) ? m.filled(a[1], a[1] + 1, a[2]) : NONE;
      case 4: return m.isRange(a[1], a[2]) && Model.isValue(a[3]) ? m.filled(a[1], a[2], a[3]) : NONE;
      case 5: return m.isRange(a[1], a[2]) ? m.turned(a[1], a[2]) : NONE;
      case 6: return m.isPlace(a[1]) && m.isPlace(a[2]) ? m.swapped(a[1], a[2]) : NONE;
      case 7: return m.insert(a[1], a[2]);
      case 8: return m.isPlace(a[1]) ? m.row.remove(a[1]) : NO_VALUE;
      case 9: return m.isPlace(a[1]) ? m.row.get(a[1]) : THROWS;
      case 10: return Model.isValue(a[1]) && m.isRange(a[2], a[3]) ? m.often(a[1], a[2], a[3]) : NONE;
      case 11: return m.kth(a[1], a[2]);
      case 12: return new TreeSet<>(m.row).size();
      case 13: return m.nodeAnswer(a[1], a[2], 0);
      case 14: return m.vote(a[1], a[2], a[3], a[4]);
      case 15: return m.nodeAnswer(a[1], a[2], 1);
      case 16: return m.nodeAnswer(a[1], a[2], 2);
      case 17: return m.above(a[1], a[2], a[3]);
      case 18: return m.holds(a[1]);
      case 19: return m.isRange(a[1], a[2]) ? m.partsOf(a[1], a[2]).size() : NONE;
      case 20: return m.part(a[1], a[2], a[3], a[4]);
      case 21: return m.summary(a[1], a[2], a[3]);
      case 22: return m.candidate(a[1], a[2], a[3], a[4]);
      case 23: return m.lost(a[1], a[2], a[3]);
      default: return modelSecond(m, a);
    }
  }

  private static long modelSecond(Model m, int[] a) {
    switch (a[0]) {
      case 24: return m.surely(a[1], a[2]);
      case 25: return m.heavy(a[1], a[2], a[3], a[4]);
      case 26: return m.heavyAt(a[1], a[2], a[3], a[4], a[5], a[6]);
      case 27: return m.failed(a[1], a[2], a[3], a[4]);
      case 28: return m.least(a[1], a[2], a[3], a[4]);
      case 29: return m.isRange(a[1], a[2]) ? m.majority(a[1], a[2]) : NO_VALUE;
      case 30: return Model.isValue(a[1]) && m.isRange(a[2], a[3])
          ? 2 * m.often(a[1], a[2], a[3]) - (a[3] - a[2]) : NO_VALUE;
      case 31: return m.both(a[1], a[2], a[3], a[4], a[5], a[6]);
      case 32: return m.bothAt(a);
      case 33: return m.longest(a[1], a[2], a[3], a[4]);
      case 34: return m.reach(a[1]);
      case 35: return m.isRange(a[1], a[2]) ? m.parted(a[1], a[2]) : NONE;
      case 36: return m.isRange(a[1], a[2]) ? m.cut(a[1], a[2]) : NONE;
      case 37: return m.majorities();
      case 38: return m.windows(a[1], a[2], a[3], a[4]);
      case 39: return m.needs(a);
      case 40: return m.spares(a);
      case 41: return m.would(a[1], a[2], a[3], a[4]);
      case 42: return m.swings(a[1], a[2], a[3], a[4]);
      default: return m.told(a[1]);
    }
  }
}
