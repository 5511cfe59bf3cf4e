import java.util.NoSuchElementException;

/** For each promise of the document: ordinary inputs, the edges that it names, wrong inputs; all worked out by hand. */
public final class MajorityIndexPromises {
  private static final int MIN = Integer.MIN_VALUE;
  private static final int MAX = Integer.MAX_VALUE;
  private static final int NO_VALUE = -40000;
  private static int wrong = 0;
  private static int made = 0;

  public static void main(String[] args) {
    promises1To4();
    promises5To8();
    promises9To14();
    promises15To18();
    promises19To22();
    promises23To26();
    promises27To29();
    promise30();
    promises31To34();
    promises35To37();
    promises38To40();
    promises41To43();
    promises44To45();
    emptyRow();
    questionsLeaveNoTrace();
    fullRow();
    System.out.println(wrong == 0 ? made + " answers are as due" : wrong + " of " + made + " answers are not as due");
    if (wrong != 0) {
      System.exit(1);
    }
  }

  private static void due(int promise, String call, long got, long want) {
    made++;
    if (got != want) {
      wrong++;
      System.out.println("promise " + promise + ": " + call + " answered " + got + ", due is " + want);
    }
  }

  private interface Call {
    int answer();
  }

  private static void dueThrow(int promise, String call, Call asked) {
    made++;
    String got;
    try {
      got = "answered " + asked.answer();
    } catch (NoSuchElementException e) {
      if (e.getClass() == NoSuchElementException.class) {
        return;
      }
      got = "threw " + e;
    } catch (RuntimeException e) {
      got = "threw " + e;
    }
    wrong++;
    System.out.println("promise " + promise + ": " + call + " " + got + ", due is a NoSuchElementException");
  }

  private static MajorityIndex of(int... values) {
    MajorityIndex x = new MajorityIndex();
    for (int i = 0; i < values.length; i++) {
      due(9, "insert(" + i + ", ..)", x.insert(i, values[i]), i + 1);
    }
    return x;
  }

  /**
   * Nodes by K 2: (0,2) 5:2; (2,4) 9:2; (4,6) -3:1 9:1; (6,8) 5:2; (0,4) 5:2 9:2;
   * (4,8) 5:2 -3:1 9:1 less by 1: 5:1, loss 1; (0,8) 5:3 9:2, loss 1.
   */
  private static MajorityIndex eight() {
    return of(5, 5, 9, 9, 9, -3, 5, 5);
  }

  private static void rowIs(int promise, MajorityIndex x, int... values) {
    due(promise, "told(0)", x.told(0), values.length);
    for (int i = 0; i < values.length && i < x.told(0); i++) {
      due(promise, "at(" + i + ")", x.at(i), values[i]);
    }
  }

  private static void promises1To4() {
    due(1, "NONE", MajorityIndex.NONE, -1);
    due(1, "NO_VALUE", MajorityIndex.NO_VALUE, -40000);
    MajorityIndex x = new MajorityIndex();
    due(1, "told(0)", x.told(0), 0);
    due(1, "told(1)", x.told(1), 2);
    due(2, "feed", x.feed(0x7fff8000, 0xffff0003), 4);
    rowIs(2, x, 32767, -32768, -1, 3);
    due(2, "feed", x.feed(0x00010002, 0x8000ffff), 8);
    rowIs(2, x, 32767, -32768, -1, 3, 1, 2, -32768, -1);
    due(3, "end(9)", x.end(9), -1);
    due(3, "end(-1)", x.end(-1), -1);
    due(3, "end(MIN)", x.end(MIN), -1);
    due(3, "end(MAX)", x.end(MAX), -1);
    due(3, "told(0)", x.told(0), 8);
    due(3, "end(8)", x.end(8), 8);
    due(3, "end(2)", x.end(2), 2);
    rowIs(3, x, 32767, -32768);
    due(3, "node(0, 2)", x.node(0, 2), 2);
    due(3, "end(0)", x.end(0), 0);
    rowIs(3, x);
    due(4, "slots(6)", x.slots(6), 2);
    due(4, "slots(7)", x.slots(7), -1);
    due(4, "slots(0)", x.slots(0), -1);
    due(4, "slots(MIN)", x.slots(MIN), -1);
    due(4, "slots(MAX)", x.slots(MAX), -1);
    due(4, "slots(1)", x.slots(1), 6);
    due(4, "told(1)", x.told(1), 1);
    MajorityIndex y = eight();
    due(4, "loss(0, 8)", y.loss(0, 8), 1);
    due(4, "slots(3)", y.slots(3), 2);
    due(4, "loss(0, 8)", y.loss(0, 8), 0);
    due(4, "node(0, 8)", y.node(0, 8), 3);
    // By one slot: (0,4) 5:2 and 9:2, less by 2; (4,6) nothing; (4,8) 5:2; so the root has 5:2.
    due(4, "slots(1)", y.slots(1), 3);
    due(4, "loss(0, 8)", y.loss(0, 8), 3);
    due(4, "node(0, 4)", y.node(0, 4), 0);
  }

  private static void promises5To8() {
    MajorityIndex x = eight();
    due(5, "set(5, 5)", x.set(5, 5), 4);
    rowIs(5, x, 5, 5, 9, 9, 9, 5, 5, 5);
    due(5, "loss(0, 8)", x.loss(0, 8), 0);
    due(5, "set(5, 5)", x.set(5, 5), 0);
    due(5, "set(8, 5)", x.set(8, 5), -1);
    due(5, "set(-1, 5)", x.set(-1, 5), -1);
    due(5, "set(MIN, 5)", x.set(MIN, 5), -1);
    due(5, "set(0, 32768)", x.set(0, 32768), -1);
    due(5, "set(0, -32769)", x.set(0, -32769), -1);
    due(5, "set(0, NO_VALUE)", x.set(0, NO_VALUE), -1);
    rowIs(5, x, 5, 5, 9, 9, 9, 5, 5, 5);
    x.set(0, 32767);
    x.set(1, -32768);
    rowIs(5, x, 32767, -32768, 9, 9, 9, 5, 5, 5);
    // The root has the vote 2:1 ahead of it and behind it, but its loss goes from 4 to 5.
    MajorityIndex y = of(4, 2, 2, 2, 4, 3, 1, 4, 1, 1, 2, 1, 4, 3, 3, 3);
    due(5, "loss(0, 16)", y.loss(0, 16), 4);
    due(5, "set(8, 4)", y.set(8, 4), 5);
    due(5, "loss(0, 16)", y.loss(0, 16), 5);
    x = eight();
    due(6, "fill(2, 5, 9)", x.fill(2, 5, 9), 0);
    due(6, "fill(0, 8, 9)", x.fill(0, 8, 9), 11);
    rowIs(6, x, 9, 9, 9, 9, 9, 9, 9, 9);
    due(6, "fill(3, 4, 1)", x.fill(3, 4, 1), 4);
    due(6, "fill(3, 3, 2)", x.fill(3, 3, 2), -1);
    due(6, "fill(4, 3, 2)", x.fill(4, 3, 2), -1);
    due(6, "fill(-1, 3, 2)", x.fill(-1, 3, 2), -1);
    due(6, "fill(7, 9, 2)", x.fill(7, 9, 2), -1);
    due(6, "fill(0, MAX, 2)", x.fill(0, MAX, 2), -1);
    due(6, "fill(0, 8, 32768)", x.fill(0, 8, 32768), -1);
    rowIs(6, x, 9, 9, 9, 1, 9, 9, 9, 9);
    x = eight();
    due(7, "turn(2, 4)", x.turn(2, 4), 0);
    due(7, "turn(0, 8)", x.turn(0, 8), 6);
    rowIs(7, x, 5, 5, -3, 9, 9, 9, 5, 5);
    due(7, "turn(1, 4)", x.turn(1, 4), 4);
    rowIs(7, x, 5, 9, -3, 5, 9, 9, 5, 5);
    due(7, "turn(3, 4)", x.turn(3, 4), 0);
    due(7, "turn(4, 4)", x.turn(4, 4), -1);
    due(7, "turn(-1, 4)", x.turn(-1, 4), -1);
    due(7, "turn(0, 9)", x.turn(0, 9), -1);
    due(7, "turn(5, 2)", x.turn(5, 2), -1);
    rowIs(7, x, 5, 9, -3, 5, 9, 9, 5, 5);
    x = eight();
    due(8, "swap(0, 7)", x.swap(0, 7), 0);
    due(8, "swap(3, 3)", x.swap(3, 3), 0);
    due(8, "swap(5, 4)", x.swap(5, 4), 2);
    rowIs(8, x, 5, 5, 9, 9, -3, 9, 5, 5);
    due(8, "swap(0, 2)", x.swap(0, 2), 4);
    rowIs(8, x, 9, 5, 5, 9, -3, 9, 5, 5);
    due(8, "swap(0, 8)", x.swap(0, 8), -1);
    due(8, "swap(8, 0)", x.swap(8, 0), -1);
    due(8, "swap(-1, 0)", x.swap(-1, 0), -1);
    due(8, "swap(0, MIN)", x.swap(0, MIN), -1);
    rowIs(8, x, 9, 5, 5, 9, -3, 9, 5, 5);
  }

  private static void promises9To14() {
    MajorityIndex x = of(1, 2, 3);
    due(9, "insert(0, 7)", x.insert(0, 7), 4);
    due(9, "insert(4, 8)", x.insert(4, 8), 5);
    due(9, "insert(2, -32768)", x.insert(2, -32768), 6);
    rowIs(9, x, 7, 1, -32768, 2, 3, 8);
    due(9, "insert(7, 1)", x.insert(7, 1), -1);
    due(9, "insert(-1, 1)", x.insert(-1, 1), -1);
    due(9, "insert(0, 32768)", x.insert(0, 32768), -1);
    due(9, "insert(0, -32769)", x.insert(0, -32769), -1);
    rowIs(9, x, 7, 1, -32768, 2, 3, 8);
    due(10, "remove(2)", x.remove(2), -32768);
    due(10, "remove(4)", x.remove(4), 8);
    due(10, "remove(0)", x.remove(0), 7);
    rowIs(10, x, 1, 2, 3);
    due(10, "told(2)", x.told(2), 5);
    due(10, "remove(3)", x.remove(3), NO_VALUE);
    due(10, "remove(-1)", x.remove(-1), NO_VALUE);
    due(10, "remove(MAX)", x.remove(MAX), NO_VALUE);
    rowIs(10, x, 1, 2, 3);
    MajorityIndex y = eight();
    due(11, "at(5)", y.at(5), -3);
    dueThrow(11, "at(8)", () -> y.at(8));
    dueThrow(11, "at(-1)", () -> y.at(-1));
    dueThrow(11, "at(MAX)", () -> y.at(MAX));
    dueThrow(11, "at(MIN)", () -> y.at(MIN));
    due(12, "count(5, 0, 8)", y.count(5, 0, 8), 4);
    due(12, "count(5, 1, 7)", y.count(5, 1, 7), 2);
    due(12, "count(9, 4, 5)", y.count(9, 4, 5), 1);
    due(12, "count(7, 0, 8)", y.count(7, 0, 8), 0);
    due(12, "count(32768, 0, 8)", y.count(32768, 0, 8), -1);
    due(12, "count(5, 4, 4)", y.count(5, 4, 4), -1);
    due(12, "count(5, 0, 9)", y.count(5, 0, 9), -1);
    due(12, "count(5, -1, 8)", y.count(5, -1, 8), -1);
    due(13, "place(5, 0)", y.place(5, 0), 0);
    due(13, "place(5, 2)", y.place(5, 2), 6);
    due(13, "place(5, 3)", y.place(5, 3), 7);
    due(13, "place(5, 4)", y.place(5, 4), -1);
    due(13, "place(5, -1)", y.place(5, -1), -1);
    due(13, "place(5, MIN)", y.place(5, MIN), -1);
    due(13, "place(7, 0)", y.place(7, 0), -1);
    due(13, "place(NO_VALUE, 0)", y.place(NO_VALUE, 0), -1);
    due(14, "values()", y.values(), 3);
    y.remove(5);
    due(14, "values()", y.values(), 2);
    due(13, "place(-3, 0)", y.place(-3, 0), -1);
  }

  private static void promises15To18() {
    MajorityIndex x = eight();
    due(15, "node(0, 8)", x.node(0, 8), 2);
    due(15, "node(4, 8)", x.node(4, 8), 1);
    due(15, "node(7, 8)", x.node(7, 8), 1);
    due(15, "node(1, 3)", x.node(1, 3), -2);
    due(15, "node(0, 7)", x.node(0, 7), -2);
    due(15, "node(0, 9)", x.node(0, 9), -1);
    due(15, "node(3, 3)", x.node(3, 3), -1);
    due(15, "node(-1, 4)", x.node(-1, 4), -1);
    due(15, "node(4, 0)", x.node(4, 0), -1);
    due(16, "vote(0, 8, 0, 0)", x.vote(0, 8, 0, 0), 5);
    due(16, "vote(0, 8, 0, 1)", x.vote(0, 8, 0, 1), 3);
    due(16, "vote(0, 8, 1, 0)", x.vote(0, 8, 1, 0), 9);
    due(16, "vote(0, 8, 1, 1)", x.vote(0, 8, 1, 1), 2);
    due(16, "vote(4, 6, 0, 0)", x.vote(4, 6, 0, 0), -3);
    due(16, "vote(4, 6, 1, 0)", x.vote(4, 6, 1, 0), 9);
    due(16, "vote(4, 8, 0, 1)", x.vote(4, 8, 0, 1), 1);
    dueThrow(16, "vote(4, 8, 1, 0)", () -> x.vote(4, 8, 1, 0));
    dueThrow(16, "vote(0, 8, 2, 0)", () -> x.vote(0, 8, 2, 0));
    dueThrow(16, "vote(0, 8, -1, 0)", () -> x.vote(0, 8, -1, 0));
    dueThrow(16, "vote(0, 8, 0, 2)", () -> x.vote(0, 8, 0, 2));
    dueThrow(16, "vote(0, 8, 0, -1)", () -> x.vote(0, 8, 0, -1));
    dueThrow(16, "vote(1, 3, 0, 0)", () -> x.vote(1, 3, 0, 0));
    dueThrow(16, "vote(0, 9, 0, 0)", () -> x.vote(0, 9, 0, 0));
    dueThrow(16, "vote(MIN, MAX, 0, 0)", () -> x.vote(MIN, MAX, 0, 0));
    due(17, "loss(0, 8)", x.loss(0, 8), 1);
    due(17, "loss(4, 8)", x.loss(4, 8), 1);
    due(17, "loss(0, 4)", x.loss(0, 4), 0);
    due(17, "loss(3, 4)", x.loss(3, 4), 0);
    due(17, "loss(1, 3)", x.loss(1, 3), -2);
    due(17, "loss(0, 9)", x.loss(0, 9), -1);
    due(18, "cancelled(4, 8)", x.cancelled(4, 8), 1);
    due(18, "cancelled(0, 8)", x.cancelled(0, 8), 0);
    due(18, "cancelled(5, 6)", x.cancelled(5, 6), 0);
    due(18, "cancelled(1, 3)", x.cancelled(1, 3), -2);
    due(18, "cancelled(8, 9)", x.cancelled(8, 9), -1);
    x.slots(1);
    due(18, "cancelled(0, 4)", x.cancelled(0, 4), 2);
    due(17, "loss(0, 4)", x.loss(0, 4), 2);
    // Of seven the left half is the lesser one: 0 to 3 and 3 to 7; of 3 to 7: 3 to 5.
    MajorityIndex y = of(1, 2, 3, 4, 5, 6, 7);
    due(15, "node(0, 3)", y.node(0, 3), 0);
    due(15, "node(3, 7)", y.node(3, 7), 0);
    due(15, "node(0, 4)", y.node(0, 4), -2);
    due(15, "node(0, 1)", y.node(0, 1), 1);
    due(15, "node(1, 3)", y.node(1, 3), 2);
    due(15, "node(0, 2)", y.node(0, 2), -2);
  }

  private static void promises19To22() {
    MajorityIndex x = eight();
    due(19, "above(2, -1, 0)", x.above(2, -1, 0), 4);
    due(19, "above(2, 0, 0)", x.above(2, 0, 0), 0);
    due(19, "above(2, 0, 1)", x.above(2, 0, 1), 8);
    due(19, "above(2, 1, 1)", x.above(2, 1, 1), 4);
    due(19, "above(2, 2, 0)", x.above(2, 2, 0), 2);
    due(19, "above(2, 3, 0)", x.above(2, 3, 0), 2);
    due(19, "above(2, 3, 1)", x.above(2, 3, 1), 3);
    due(19, "above(2, 0, 2)", x.above(2, 0, 2), 2);
    due(19, "above(5, 1, 2)", x.above(5, 1, 2), 0);
    due(19, "above(5, 2, 2)", x.above(5, 2, 2), 1);
    due(19, "above(2, 4, 0)", x.above(2, 4, 0), -1);
    due(19, "above(2, -2, 0)", x.above(2, -2, 0), -1);
    due(19, "above(2, 0, 3)", x.above(2, 0, 3), -1);
    due(19, "above(2, 0, -1)", x.above(2, 0, -1), -1);
    due(19, "above(8, 0, 0)", x.above(8, 0, 0), -1);
    due(19, "above(8, -1, 0)", x.above(8, -1, 0), -1);
    due(19, "above(-1, -1, 0)", x.above(-1, -1, 0), -1);
    due(19, "above(2, MAX, 0)", x.above(2, MAX, 0), -1);
    due(20, "holds(5)", x.holds(5), 2);
    due(20, "holds(0)", x.holds(0), 4);
    // 9 is no vote of (4,8), but one of the root again: the count has ended by then.
    due(20, "holds(4)", x.holds(4), 2);
    due(20, "holds(8)", x.holds(8), -1);
    due(20, "holds(-1)", x.holds(-1), -1);
    due(21, "parts(0, 8)", x.parts(0, 8), 1);
    due(21, "parts(1, 7)", x.parts(1, 7), 4);
    due(21, "parts(2, 8)", x.parts(2, 8), 2);
    due(21, "parts(3, 4)", x.parts(3, 4), 1);
    due(21, "parts(3, 5)", x.parts(3, 5), 2);
    due(21, "parts(3, 3)", x.parts(3, 3), -1);
    due(21, "parts(0, 9)", x.parts(0, 9), -1);
    due(21, "parts(-1, 8)", x.parts(-1, 8), -1);
    due(22, "part(1, 7, 0, 0)", x.part(1, 7, 0, 0), 1);
    due(22, "part(1, 7, 0, 1)", x.part(1, 7, 0, 1), 2);
    due(22, "part(1, 7, 1, 0)", x.part(1, 7, 1, 0), 2);
    due(22, "part(1, 7, 1, 1)", x.part(1, 7, 1, 1), 4);
    due(22, "part(1, 7, 3, 0)", x.part(1, 7, 3, 0), 6);
    due(22, "part(1, 7, 3, 1)", x.part(1, 7, 3, 1), 7);
    due(22, "part(0, 8, 0, 1)", x.part(0, 8, 0, 1), 8);
    due(22, "part(1, 7, 4, 0)", x.part(1, 7, 4, 0), -1);
    due(22, "part(1, 7, -1, 0)", x.part(1, 7, -1, 0), -1);
    due(22, "part(1, 7, 0, 2)", x.part(1, 7, 0, 2), -1);
    due(22, "part(1, 7, 0, -1)", x.part(1, 7, 0, -1), -1);
    due(22, "part(1, 9, 0, 0)", x.part(1, 9, 0, 0), -1);
    due(22, "part(7, 1, 0, 0)", x.part(7, 1, 0, 0), -1);
  }

  private static void promises23To26() {
    // (1,7): 5:1; and 9:2; and -3:1 9:1, less by 1: 9:2, loss 1; and 5:1.
    MajorityIndex x = eight();
    due(23, "summary(1, 7, 0)", x.summary(1, 7, 0), 2);
    due(23, "summary(1, 7, 1)", x.summary(1, 7, 1), 3);
    due(23, "summary(1, 7, 2)", x.summary(1, 7, 2), 1);
    due(23, "summary(0, 8, 1)", x.summary(0, 8, 1), 5);
    due(23, "summary(4, 8, 2)", x.summary(4, 8, 2), 1);
    due(23, "summary(1, 7, 3)", x.summary(1, 7, 3), -1);
    due(23, "summary(1, 7, -1)", x.summary(1, 7, -1), -1);
    due(23, "summary(1, 9, 0)", x.summary(1, 9, 0), -1);
    due(23, "summary(2, 2, 0)", x.summary(2, 2, 0), -1);
    due(24, "candidate(1, 7, 0, 0)", x.candidate(1, 7, 0, 0), 9);
    due(24, "candidate(1, 7, 0, 1)", x.candidate(1, 7, 0, 1), 2);
    due(24, "candidate(1, 7, 0, 2)", x.candidate(1, 7, 0, 2), 3);
    due(24, "candidate(1, 7, 1, 0)", x.candidate(1, 7, 1, 0), 5);
    due(24, "candidate(1, 7, 1, 1)", x.candidate(1, 7, 1, 1), 1);
    due(24, "candidate(1, 7, 1, 2)", x.candidate(1, 7, 1, 2), 2);
    dueThrow(24, "candidate(1, 7, 2, 0)", () -> x.candidate(1, 7, 2, 0));
    dueThrow(24, "candidate(1, 7, -1, 0)", () -> x.candidate(1, 7, -1, 0));
    dueThrow(24, "candidate(1, 7, 0, 3)", () -> x.candidate(1, 7, 0, 3));
    dueThrow(24, "candidate(1, 7, 0, -1)", () -> x.candidate(1, 7, 0, -1));
    dueThrow(24, "candidate(1, 9, 0, 0)", () -> x.candidate(1, 9, 0, 0));
    dueThrow(24, "candidate(3, 3, 0, 0)", () -> x.candidate(3, 3, 0, 0));
    due(25, "lost(9, 1, 7)", x.lost(9, 1, 7), 1);
    due(25, "lost(5, 1, 7)", x.lost(5, 1, 7), 1);
    due(25, "lost(-3, 1, 7)", x.lost(-3, 1, 7), 1);
    due(25, "lost(9, 0, 4)", x.lost(9, 0, 4), 0);
    due(25, "lost(7, 1, 7)", x.lost(7, 1, 7), 0);
    due(25, "lost(32768, 1, 7)", x.lost(32768, 1, 7), -1);
    due(25, "lost(9, 1, 9)", x.lost(9, 1, 9), -1);
    due(25, "lost(9, 5, 5)", x.lost(9, 5, 5), -1);
    due(26, "surely(1, 7)", x.surely(1, 7), NO_VALUE);
    due(26, "surely(0, 8)", x.surely(0, 8), NO_VALUE);
    due(26, "surely(4, 8)", x.surely(4, 8), NO_VALUE);
    due(26, "surely(2, 5)", x.surely(2, 5), 9);
    due(26, "surely(0, 3)", x.surely(0, 3), 5);
    due(26, "surely(0, 4)", x.surely(0, 4), NO_VALUE);
    due(26, "surely(0, 9)", x.surely(0, 9), NO_VALUE);
    due(26, "surely(1, 1)", x.surely(1, 1), NO_VALUE);
    // (2,6): 9:3 -3:1; (2,7) 9:3 -3:1 5:1, less by 1: 9:2 alone, loss 1.
    due(26, "surely(2, 7)", x.surely(2, 7), 9);
    due(26, "surely of no votes", of(1, 2, 3, 4).surely(0, 4), NO_VALUE);
  }

  private static void promises27To29() {
    MajorityIndex x = eight();
    due(27, "heavy(0, 8, 1, 3)", x.heavy(0, 8, 1, 3), 2);
    due(27, "heavy(0, 8, 3, 8)", x.heavy(0, 8, 3, 8), 1);
    due(27, "heavy(0, 8, 1, 2)", x.heavy(0, 8, 1, 2), 0);
    due(27, "heavy(0, 8, 1, 1)", x.heavy(0, 8, 1, 1), 0);
    due(27, "heavy(2, 5, 998, 999)", x.heavy(2, 5, 998, 999), 1);
    due(27, "heavy(0, 8, 1, 4)", x.heavy(0, 8, 1, 4), -2);
    due(27, "heavy(0, 8, 333, 999)", x.heavy(0, 8, 333, 999), 2);
    due(27, "heavy(0, 8, 332, 999)", x.heavy(0, 8, 332, 999), -2);
    due(27, "heavy(0, 9, 1, 4)", x.heavy(0, 9, 1, 4), -1);
    due(27, "heavy(3, 3, 1, 3)", x.heavy(3, 3, 1, 3), -1);
    due(27, "heavy(0, 8, 0, 3)", x.heavy(0, 8, 0, 3), -1);
    due(27, "heavy(0, 8, 3, 2)", x.heavy(0, 8, 3, 2), -1);
    due(27, "heavy(0, 8, 500, 1000)", x.heavy(0, 8, 500, 1000), -1);
    due(27, "heavy(0, 8, 1000, 1000)", x.heavy(0, 8, 1000, 1000), -1);
    due(27, "heavy(0, 8, MIN, MAX)", x.heavy(0, 8, MIN, MAX), -1);
    due(28, "heavyAt(0, 8, 1, 3, 0, 0)", x.heavyAt(0, 8, 1, 3, 0, 0), 5);
    due(28, "heavyAt(0, 8, 1, 3, 0, 1)", x.heavyAt(0, 8, 1, 3, 0, 1), 4);
    due(28, "heavyAt(0, 8, 1, 3, 1, 0)", x.heavyAt(0, 8, 1, 3, 1, 0), 9);
    due(28, "heavyAt(0, 8, 1, 3, 1, 1)", x.heavyAt(0, 8, 1, 3, 1, 1), 3);
    due(28, "heavyAt(0, 4, 1, 3, 0, 0)", x.heavyAt(0, 4, 1, 3, 0, 0), 5);
    due(28, "heavyAt(0, 4, 1, 3, 1, 0)", x.heavyAt(0, 4, 1, 3, 1, 0), 9);
    dueThrow(28, "heavyAt(0, 8, 1, 3, 2, 0)", () -> x.heavyAt(0, 8, 1, 3, 2, 0));
    dueThrow(28, "heavyAt(0, 8, 1, 3, -1, 0)", () -> x.heavyAt(0, 8, 1, 3, -1, 0));
    dueThrow(28, "heavyAt(0, 8, 1, 3, 0, 2)", () -> x.heavyAt(0, 8, 1, 3, 0, 2));
    dueThrow(28, "heavyAt(0, 8, 1, 3, 0, -1)", () -> x.heavyAt(0, 8, 1, 3, 0, -1));
    dueThrow(28, "heavyAt(0, 8, 1, 4, 0, 0)", () -> x.heavyAt(0, 8, 1, 4, 0, 0));
    dueThrow(28, "heavyAt(0, 9, 1, 3, 0, 0)", () -> x.heavyAt(0, 9, 1, 3, 0, 0));
    dueThrow(28, "heavyAt(0, 8, 0, 3, 0, 0)", () -> x.heavyAt(0, 8, 0, 3, 0, 0));
    // Votes tell 2:3 ahead of 1:2, as 1 lost one in (0,4) already; by places both are there thrice.
    MajorityIndex y = of(1, 1, 3, 4, 2, 2, 2, 1);
    due(28, "candidate(0, 8, 0, 0)", y.candidate(0, 8, 0, 0), 2);
    due(28, "heavyAt(0, 8, 1, 3, 0, 0)", y.heavyAt(0, 8, 1, 3, 0, 0), 1);
    due(28, "heavyAt(0, 8, 1, 3, 1, 0)", y.heavyAt(0, 8, 1, 3, 1, 0), 2);
    // The votes are 2:1 and 3:1; 3, told behind 2, is there twice and alone heavy.
    MajorityIndex z = of(2, 3, 4, 1, 3);
    due(28, "candidate(0, 5, 0, 0)", z.candidate(0, 5, 0, 0), 2);
    due(28, "heavyAt(0, 5, 1, 3, 0, 0)", z.heavyAt(0, 5, 1, 3, 0, 0), 3);
    due(28, "heavyAt(0, 5, 1, 3, 0, 1)", z.heavyAt(0, 5, 1, 3, 0, 1), 2);
    dueThrow(28, "heavyAt(0, 5, 1, 3, 1, 0)", () -> z.heavyAt(0, 5, 1, 3, 1, 0));
    due(29, "failed(0, 5, 1, 3)", z.failed(0, 5, 1, 3), 1);
    due(29, "failed(0, 8, 1, 2)", x.failed(0, 8, 1, 2), 2);
    due(29, "failed(0, 8, 1, 3)", x.failed(0, 8, 1, 3), 0);
    due(29, "failed(0, 8, 3, 8)", x.failed(0, 8, 3, 8), 1);
    due(29, "failed(0, 8, 1, 4)", x.failed(0, 8, 1, 4), -2);
    due(29, "failed(0, 9, 1, 4)", x.failed(0, 9, 1, 4), -1);
    due(29, "failed(0, 8, 4, 3)", x.failed(0, 8, 4, 3), -1);
  }

  private static void promise30() {
    MajorityIndex x = eight();
    due(30, "least(0, 8, 1, 3)", x.least(0, 8, 1, 3), 2);
    due(30, "least(0, 8, 1, 9)", x.least(0, 8, 1, 9), 3);
    due(30, "least(0, 8, 1, 2)", x.least(0, 8, 1, 2), 1);
    due(30, "least(2, 5, 1, 2)", x.least(2, 5, 1, 2), 1);
    due(30, "told(1)", x.told(1), 2);
    due(30, "told(6)", x.told(6), 2);
    due(30, "cancelled(4, 8)", x.cancelled(4, 8), 1);
    due(30, "least(0, 9, 1, 3)", x.least(0, 9, 1, 3), -1);
    due(30, "least(0, 8, 0, 3)", x.least(0, 8, 0, 3), -1);
    due(30, "least(0, 8, 1, 1000)", x.least(0, 8, 1, 1000), -1);
    x.slots(6);
    due(30, "least(0, 8, 1, 3)", x.least(0, 8, 1, 3), 2);
    MajorityIndex y = of(1, 2, 3, 4, 5, 6, 7);
    due(30, "least(0, 7, 1, 999)", y.least(0, 7, 1, 999), -2);
    due(30, "least(0, 6, 1, 999)", y.least(0, 6, 1, 999), 6);
    MajorityIndex z = new MajorityIndex();
    for (int i = 0; i < 17; i++) {
      z.feed(0x00010001, 0x00010002);
    }
    due(30, "least(0, 64, 1, 2)", z.least(0, 64, 1, 2), 1);
    due(30, "least(4, 68, 1, 2)", z.least(4, 68, 1, 2), 1);
    due(30, "least(0, 65, 1, 2)", z.least(0, 65, 1, 2), -1);
  }

  private static void promises31To34() {
    MajorityIndex x = eight();
    due(31, "majority(0, 8)", x.majority(0, 8), NO_VALUE);
    due(31, "majority(0, 5)", x.majority(0, 5), 9);
    due(31, "majority(5, 8)", x.majority(5, 8), 5);
    due(31, "majority(5, 6)", x.majority(5, 6), -3);
    due(31, "majority(0, 4)", x.majority(0, 4), NO_VALUE);
    due(31, "majority(0, 9)", x.majority(0, 9), NO_VALUE);
    due(31, "majority(2, 2)", x.majority(2, 2), NO_VALUE);
    due(32, "margin(5, 0, 8)", x.margin(5, 0, 8), 0);
    due(32, "margin(9, 2, 5)", x.margin(9, 2, 5), 3);
    due(32, "margin(-3, 0, 8)", x.margin(-3, 0, 8), -6);
    due(32, "margin(7, 0, 8)", x.margin(7, 0, 8), -8);
    due(32, "margin(5, 3, 3)", x.margin(5, 3, 3), NO_VALUE);
    due(32, "margin(5, 0, 9)", x.margin(5, 0, 9), NO_VALUE);
    due(32, "margin(-32769, 0, 8)", x.margin(-32769, 0, 8), NO_VALUE);
    due(33, "both(0, 2, 6, 8, 1, 2)", x.both(0, 2, 6, 8, 1, 2), 1);
    due(33, "both(6, 8, 0, 2, 1, 2)", x.both(6, 8, 0, 2, 1, 2), 1);
    due(33, "both(0, 2, 2, 4, 1, 2)", x.both(0, 2, 2, 4, 1, 2), 0);
    due(33, "both(2, 4, 0, 2, 1, 3)", x.both(2, 4, 0, 2, 1, 3), 2);
    due(33, "both(0, 1, 2, 5, 1, 3)", x.both(0, 1, 2, 5, 1, 3), 1);
    due(33, "both(0, 3, 2, 4, 1, 3)", x.both(0, 3, 2, 4, 1, 3), -3);
    due(33, "both(2, 4, 0, 3, 1, 3)", x.both(2, 4, 0, 3, 1, 3), -3);
    due(33, "both(0, 8, 2, 4, 1, 3)", x.both(0, 8, 2, 4, 1, 3), -3);
    due(33, "both(1, 2, 1, 2, 1, 3)", x.both(1, 2, 1, 2, 1, 3), -3);
    due(33, "both(0, 2, 2, 4, 1, 4)", x.both(0, 2, 2, 4, 1, 4), -2);
    due(33, "both(0, 2, 2, 9, 1, 4)", x.both(0, 2, 2, 9, 1, 4), -1);
    due(33, "both(2, 2, 4, 5, 1, 3)", x.both(2, 2, 4, 5, 1, 3), -1);
    due(33, "both(0, 2, 2, 4, 0, 4)", x.both(0, 2, 2, 4, 0, 4), -1);
    due(33, "both(0, 2, 2, 4, 2, 1)", x.both(0, 2, 2, 4, 2, 1), -1);
    due(34, "bothAt(0, 2, 6, 8, 1, 2, 0)", x.bothAt(0, 2, 6, 8, 1, 2, 0), 5);
    due(34, "bothAt(2, 4, 0, 2, 1, 3, 0)", x.bothAt(2, 4, 0, 2, 1, 3, 0), 5);
    due(34, "bothAt(2, 4, 0, 2, 1, 3, 1)", x.bothAt(2, 4, 0, 2, 1, 3, 1), 9);
    due(34, "bothAt(2, 5, 0, 2, 1, 3, 0)", x.bothAt(2, 5, 0, 2, 1, 3, 0), 9);
    due(34, "bothAt(2, 4, 0, 2, 1, 3, 2)", x.bothAt(2, 4, 0, 2, 1, 3, 2), NO_VALUE);
    due(34, "bothAt(2, 4, 0, 2, 1, 3, -1)", x.bothAt(2, 4, 0, 2, 1, 3, -1), NO_VALUE);
    due(34, "bothAt(2, 4, 0, 3, 1, 3, 0)", x.bothAt(2, 4, 0, 3, 1, 3, 0), NO_VALUE);
    due(34, "bothAt(2, 4, 0, 3, 1, 3, -4)", x.bothAt(2, 4, 0, 3, 1, 3, -4), NO_VALUE);
    due(34, "bothAt(2, 4, 0, 2, 1, 4, 0)", x.bothAt(2, 4, 0, 2, 1, 4, 0), NO_VALUE);
    due(34, "bothAt(2, 4, 0, 9, 1, 3, 0)", x.bothAt(2, 4, 0, 9, 1, 3, 0), NO_VALUE);
    due(34, "bothAt(2, 4, 0, 2, 0, 3, 0)", x.bothAt(2, 4, 0, 2, 0, 3, 0), NO_VALUE);
  }

  private static void promises35To37() {
    MajorityIndex x = eight();
    due(35, "longest(9, 1, 2, 0)", x.longest(9, 1, 2, 0), 0);
    due(35, "longest(9, 1, 2, 1)", x.longest(9, 1, 2, 1), 5);
    due(35, "longest(5, 1, 2, 0)", x.longest(5, 1, 2, 0), 0);
    due(35, "longest(5, 1, 2, 1)", x.longest(5, 1, 2, 1), 3);
    due(35, "longest(5, 1, 3, 1)", x.longest(5, 1, 3, 1), 8);
    due(35, "longest(-3, 1, 2, 0)", x.longest(-3, 1, 2, 0), 5);
    due(35, "longest(-3, 1, 2, 1)", x.longest(-3, 1, 2, 1), 6);
    due(35, "longest(7, 1, 999, 0)", x.longest(7, 1, 999, 0), -1);
    due(35, "longest(5, 1, 1, 0)", x.longest(5, 1, 1, 0), -1);
    due(35, "longest(5, 1, 2, 2)", x.longest(5, 1, 2, 2), -1);
    due(35, "longest(5, 1, 2, -1)", x.longest(5, 1, 2, -1), -1);
    due(35, "longest(5, 0, 2, 0)", x.longest(5, 0, 2, 0), -1);
    due(35, "longest(40000, 1, 2, 0)", x.longest(40000, 1, 2, 0), -1);
    due(36, "reach(0)", x.reach(0), 5);
    due(36, "reach(5)", x.reach(5), 8);
    due(36, "reach(7)", x.reach(7), 8);
    due(36, "reach(8)", x.reach(8), -1);
    due(36, "reach(-1)", x.reach(-1), -1);
    due(37, "parted(0, 8)", x.parted(0, 8), 2);
    due(37, "parted(0, 5)", x.parted(0, 5), 1);
    due(37, "parted(3, 4)", x.parted(3, 4), 1);
    due(37, "parted(4, 6)", x.parted(4, 6), 2);
    due(37, "parted(0, 9)", x.parted(0, 9), -1);
    due(37, "parted(4, 4)", x.parted(4, 4), -1);
    // The farthest first part, 3 3 2, would leave 1 and 2 alone; 3 3 and 2 1 2 are fewer.
    MajorityIndex y = of(3, 3, 2, 1, 2);
    due(37, "parted(0, 5)", y.parted(0, 5), 2);
    due(36, "reach(0)", y.reach(0), 3);
  }

  private static void promises38To40() {
    MajorityIndex x = eight();
    due(38, "cut(0, 8)", x.cut(0, 8), 5);
    due(38, "cut(1, 3)", x.cut(1, 3), 2);
    due(38, "cut(0, 2)", x.cut(0, 2), -1);
    due(38, "cut(0, 1)", x.cut(0, 1), -1);
    due(38, "cut(0, 9)", x.cut(0, 9), -1);
    due(38, "cut(5, 5)", x.cut(5, 5), -1);
    due(39, "majorities()", of(1, 1, 2).majorities(), 5);
    due(39, "majorities()", of(1, 2, 3).majorities(), 3);
    due(39, "majorities()", of(1, 2, 1).majorities(), 4);
    due(39, "majorities()", of(6, 6, 6, 6).majorities(), 10);
    due(40, "windows(3, 1, 2, 0)", x.windows(3, 1, 2, 0), 5);
    due(40, "windows(3, 1, 2, 1)", x.windows(3, 1, 2, 1), 9);
    due(40, "windows(3, 1, 2, 2)", x.windows(3, 1, 2, 2), 3);
    due(40, "windows(2, 1, 2, 0)", x.windows(2, 1, 2, 0), 4);
    due(40, "windows(2, 1, 2, 1)", x.windows(2, 1, 2, 1), 5);
    due(40, "windows(2, 1, 2, 2)", x.windows(2, 1, 2, 2), 2);
    due(40, "windows(1, 1, 2, 0)", x.windows(1, 1, 2, 0), 8);
    due(40, "windows(8, 1, 9, 0)", x.windows(8, 1, 9, 0), 1);
    due(40, "windows(8, 1, 9, 1)", x.windows(8, 1, 9, 1), -3);
    due(40, "windows(1, 1, 1, 0)", x.windows(1, 1, 1, 0), 0);
    due(40, "windows(1, 1, 1, 1)", x.windows(1, 1, 1, 1), NO_VALUE);
    due(40, "windows(1, 1, 1, 2)", x.windows(1, 1, 1, 2), 0);
    due(40, "windows(9, 1, 2, 0)", x.windows(9, 1, 2, 0), -1);
    due(40, "windows(9, 1, 2, 1)", x.windows(9, 1, 2, 1), NO_VALUE);
    due(40, "windows(0, 1, 2, 2)", x.windows(0, 1, 2, 2), -1);
    due(40, "windows(0, 1, 2, 1)", x.windows(0, 1, 2, 1), NO_VALUE);
    due(40, "windows(3, 2, 1, 1)", x.windows(3, 2, 1, 1), NO_VALUE);
    due(40, "windows(3, 0, 1, 0)", x.windows(3, 0, 1, 0), -1);
    due(40, "windows(3, 1, 2, 3)", x.windows(3, 1, 2, 3), -1);
    due(40, "windows(3, 1, 2, -1)", x.windows(3, 1, 2, -1), -1);
  }

  private static void promises41To43() {
    MajorityIndex x = eight();
    due(41, "needs(9, 0, 8, 1, 2)", x.needs(9, 0, 8, 1, 2), 2);
    due(41, "needs(5, 0, 8, 1, 2)", x.needs(5, 0, 8, 1, 2), 1);
    due(41, "needs(9, 2, 5, 1, 2)", x.needs(9, 2, 5, 1, 2), 0);
    due(41, "needs(9, 0, 8, 3, 8)", x.needs(9, 0, 8, 3, 8), 1);
    due(41, "needs(7, 0, 8, 1, 999)", x.needs(7, 0, 8, 1, 999), 1);
    due(41, "needs(7, 0, 8, 998, 999)", x.needs(7, 0, 8, 998, 999), 8);
    due(41, "needs(9, 2, 5, 1, 1)", x.needs(9, 2, 5, 1, 1), -2);
    due(41, "needs(9, 0, 9, 1, 1)", x.needs(9, 0, 9, 1, 1), -1);
    due(41, "needs(40000, 0, 8, 1, 1)", x.needs(40000, 0, 8, 1, 1), -1);
    due(41, "needs(9, 0, 8, 0, 0)", x.needs(9, 0, 8, 0, 0), -1);
    due(41, "needs(9, 4, 4, 1, 2)", x.needs(9, 4, 4, 1, 2), -1);
    due(42, "spares(5, 0, 8, 1, 2)", x.spares(5, 0, 8, 1, 2), 0);
    due(42, "spares(5, 0, 8, 1, 3)", x.spares(5, 0, 8, 1, 3), 2);
    due(42, "spares(9, 2, 5, 1, 2)", x.spares(9, 2, 5, 1, 2), 2);
    due(42, "spares(9, 2, 5, 1, 1)", x.spares(9, 2, 5, 1, 1), 0);
    due(42, "spares(7, 0, 8, 1, 999)", x.spares(7, 0, 8, 1, 999), 0);
    due(42, "spares(5, 0, 8, 0, 0)", x.spares(5, 0, 8, 0, 0), -1);
    due(42, "spares(5, 0, 9, 1, 2)", x.spares(5, 0, 9, 1, 2), -1);
    due(42, "spares(32768, 0, 8, 1, 2)", x.spares(32768, 0, 8, 1, 2), -1);
    due(43, "would(3, 5, 0, 8)", x.would(3, 5, 0, 8), 5);
    due(43, "would(7, 1, 0, 5)", x.would(7, 1, 0, 5), 9);
    due(43, "would(0, 7, 0, 1)", x.would(0, 7, 0, 1), 7);
    due(43, "would(3, 9, 0, 8)", x.would(3, 9, 0, 8), NO_VALUE);
    due(43, "would(8, 5, 0, 5)", x.would(8, 5, 0, 5), NO_VALUE);
    due(43, "would(-1, 5, 0, 5)", x.would(-1, 5, 0, 5), NO_VALUE);
    due(43, "would(7, 32768, 0, 5)", x.would(7, 32768, 0, 5), NO_VALUE);
    due(43, "would(7, 5, 0, 9)", x.would(7, 5, 0, 9), NO_VALUE);
    due(43, "would(7, 5, 3, 3)", x.would(7, 5, 3, 3), NO_VALUE);
    rowIs(43, x, 5, 5, 9, 9, 9, -3, 5, 5);
  }

  private static void promises44To45() {
    MajorityIndex x = eight();
    due(44, "swings(0, 8, 5, 0)", x.swings(0, 8, 5, 0), 5);
    due(44, "swings(0, 8, 5, 1)", x.swings(0, 8, 5, 1), 8);
    due(44, "swings(0, 5, 5, 0)", x.swings(0, 5, 5, 0), 0);
    due(44, "swings(0, 5, 5, 1)", x.swings(0, 5, 5, 1), 5);
    due(44, "swings(6, 8, 5, 0)", x.swings(6, 8, 5, 0), 6);
    due(44, "swings(0, 8, 5, 2)", x.swings(0, 8, 5, 2), -1);
    due(44, "swings(0, 8, 5, -1)", x.swings(0, 8, 5, -1), -1);
    due(44, "swings(0, 9, 5, 0)", x.swings(0, 9, 5, 0), -1);
    due(44, "swings(3, 3, 5, 0)", x.swings(3, 3, 5, 0), -1);
    due(44, "swings(0, 8, 40000, 0)", x.swings(0, 8, 40000, 0), -1);
    rowIs(44, x, 5, 5, 9, 9, 9, -3, 5, 5);
    MajorityIndex y = new MajorityIndex();
    for (int i = 0; i < 11; i++) {
      y.feed(0x00010001, 0x00010001);
    }
    due(44, "swings(0, 40, 2, 1)", y.swings(0, 40, 2, 1), 44);
    due(44, "swings(4, 44, 2, 0)", y.swings(4, 44, 2, 0), 4);
    due(44, "swings(0, 41, 2, 1)", y.swings(0, 41, 2, 1), -1);
    // By one slot two unlike places leave nothing: 0 is the most that there is.
    MajorityIndex z = of(1, 1);
    z.slots(1);
    due(44, "swings(0, 2, 7, 0)", z.swings(0, 2, 7, 0), 0);
    due(44, "swings(0, 2, 7, 1)", z.swings(0, 2, 7, 1), 0);
    due(45, "told(0)", x.told(0), 8);
    due(45, "told(1)", x.told(1), 2);
    due(45, "told(2)", x.told(2), 15);
    due(45, "told(3)", x.told(3), 11);
    due(45, "told(4)", x.told(4), 4);
    due(45, "told(5)", x.told(5), 1);
    due(45, "told(6)", x.told(6), 2);
    due(45, "told(7)", x.told(7), -1);
    due(45, "told(-1)", x.told(-1), -1);
    due(45, "told(MAX)", x.told(MAX), -1);
    MajorityIndex one = of(6);
    due(45, "told(2)", one.told(2), 1);
    due(45, "told(3)", one.told(3), 1);
    due(45, "told(4)", one.told(4), 1);
    due(45, "told(4)", of(1, 2, 3, 4, 5, 6, 7, 8, 9).told(4), 5);
  }

  private static void emptyRow() {
    MajorityIndex x = new MajorityIndex();
    for (int what = 2; what <= 6; what++) {
      due(45, "told(" + what + ")", x.told(what), 0);
    }
    due(3, "end(0)", x.end(0), 0);
    due(5, "set(0, 1)", x.set(0, 1), -1);
    due(10, "remove(0)", x.remove(0), NO_VALUE);
    dueThrow(11, "at(0)", () -> x.at(0));
    due(13, "place(0, 0)", x.place(0, 0), -1);
    due(14, "values()", x.values(), 0);
    due(15, "node(0, 0)", x.node(0, 0), -1);
    dueThrow(16, "vote(0, 0, 0, 0)", () -> x.vote(0, 0, 0, 0));
    due(19, "above(0, -1, 0)", x.above(0, -1, 0), -1);
    due(20, "holds(0)", x.holds(0), -1);
    due(35, "longest(0, 1, 2, 0)", x.longest(0, 1, 2, 0), -1);
    due(36, "reach(0)", x.reach(0), -1);
    due(39, "majorities()", x.majorities(), 0);
    due(40, "windows(0, 1, 2, 0)", x.windows(0, 1, 2, 0), -1);
    due(40, "windows(1, 1, 2, 1)", x.windows(1, 1, 2, 1), NO_VALUE);
    due(9, "insert(1, 1)", x.insert(1, 1), -1);
    due(9, "insert(0, 1)", x.insert(0, 1), 1);
    MajorityIndex y = eight();
    due(45, "told(5)", y.told(5), 1);
    y.end(0);
    for (int what = 2; what <= 6; what++) {
      due(45, "told(" + what + ")", y.told(what), 0);
    }
  }

  /** least, would and swings try things out: the tree must be as it was behind them. */
  private static void questionsLeaveNoTrace() {
    MajorityIndex x = eight();
    x.least(1, 7, 1, 9);
    x.swings(0, 8, 9, 0);
    x.would(3, 5, 0, 8);
    due(30, "vote(0, 8, 0, 1)", x.vote(0, 8, 0, 1), 3);
    due(30, "vote(4, 6, 0, 0)", x.vote(4, 6, 0, 0), -3);
    due(30, "node(4, 8)", x.node(4, 8), 1);
    due(30, "cancelled(4, 8)", x.cancelled(4, 8), 1);
    due(30, "told(6)", x.told(6), 2);
    for (int i = 0; i < 8; i++) {
      due(44, "set to what it is", x.set(i, x.at(i)), 0);
    }
  }

  private static void fullRow() {
    MajorityIndex x = new MajorityIndex();
    for (int i = 1; i <= 39; i++) {
      due(2, "feed", x.feed(i << 16 | i, i << 16 | 7), 4 * i);
    }
    due(9, "insert(0, 3)", x.insert(0, 3), 157);
    due(2, "feed", x.feed(1, 1), -1);
    rowStill(x, 157);
    due(3, "end(156)", x.end(156), 156);
    due(2, "feed", x.feed(1, 1), 160);
    due(2, "feed", x.feed(1, 1), -1);
    due(9, "insert(0, 3)", x.insert(0, 3), -1);
    due(9, "insert(160, 3)", x.insert(160, 3), -1);
    rowStill(x, 160);
    due(45, "told(2)", x.told(2), 319);
    due(45, "told(4)", x.told(4), 9);
    due(19, "above(159, 8, 0)", x.above(159, 8, 0), 159);
    due(15, "node(80, 160)", x.node(80, 160) >= 0 ? 1 : 0, 1);
    // The left one of two is never the greater one: (0,5) is (0,2) and (2,5), (155,160) is (155,157) and (157,160).
    due(21, "parts(1, 160)", x.parts(1, 160), 7);
    due(21, "parts(0, 159)", x.parts(0, 159), 8);
    due(19, "above(0, -1, 0)", x.above(0, -1, 0), 8);
    due(6, "fill(0, 160, 4)", x.fill(0, 160, 4) > 300 ? 1 : 0, 1);
    due(39, "majorities()", x.majorities(), 12880);
    due(36, "reach(0)", x.reach(0), 160);
    due(35, "longest(4, 998, 999, 1)", x.longest(4, 998, 999, 1), 160);
    due(10, "remove(159)", x.remove(159), 4);
    due(9, "insert(159, 3)", x.insert(159, 3), 160);
    due(11, "at(159)", x.at(159), 3);
  }

  private static void rowStill(MajorityIndex x, int length) {
    due(2, "told(0)", x.told(0), length);
    dueThrow(11, "at(" + length + ")", () -> x.at(length));
  }
}
