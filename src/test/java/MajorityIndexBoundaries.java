import java.io.IOException;

/** The boundary cases that the promises name, each sentence with a test of its own; answers are worked out by hand. */
public final class MajorityIndexBoundaries {
  private static final int MIN = Sentences.MIN;
  private static final int MAX = Sentences.MAX;
  private static final int NO_VALUE = Sentences.NO_VALUE;
  private static final long THROWS = Sentences.THROWS;

  private final Sentences s = new Sentences();

  private MajorityIndexBoundaries() throws IOException {
  }

  public static void main(String[] args) throws IOException {
    MajorityIndexBoundaries t = new MajorityIndexBoundaries();
    t.newObjectAndChanges();
    t.newObjectAndSummaries();
    t.newObjectAndLaterCalls();
    t.feed();
    t.end();
    t.slots();
    t.set();
    t.fill();
    t.turn();
    t.swap();
    t.insert();
    t.remove();
    t.at();
    t.count();
    t.place();
    t.values();
    t.node();
    t.vote();
    t.loss();
    t.cancelled();
    t.above();
    t.holds();
    t.parts();
    t.part();
    t.summary();
    t.candidate();
    t.lost();
    t.surely();
    t.heavy();
    t.heavyAt();
    t.failed();
    t.least();
    t.majority();
    t.margin();
    t.both();
    t.bothAt();
    t.longest();
    t.reach();
    t.parted();
    t.cut();
    t.majorities();
    t.windows();
    t.needs();
    t.spares();
    t.would();
    t.swings();
    t.told();
    t.s.mustHaveAllPromises();
    t.s.end();
  }

  private static MajorityIndex eight() {
    return Sentences.eight();
  }

  private static MajorityIndex empty() {
    return new MajorityIndex();
  }

  private void newObjectAndChanges() {
    s.promise(1, "An empty ROW, K 2.");
    s.due("told(0)", empty().told(0), 0);
    s.due("told(1)", empty().told(1), 2);
    s.due("feed", empty().feed(0, 0), 4);
    s.due("end(0)", empty().end(0), 0);
    s.refuses("end", MajorityIndex::new, (x, n) -> x.end(n), -1, 1, -1, MIN, MAX);
    s.due("slots(2)", empty().slots(2), 2);
    s.refuses("set", MajorityIndex::new, (x, i) -> x.set(i, 1), -1, 0, -1, 1, MIN, MAX);
    s.refuses("fill to", MajorityIndex::new, (x, r) -> x.fill(0, r, 1), -1, 0, 1, -1, MIN, MAX);
    s.refuses("turn to", MajorityIndex::new, (x, r) -> x.turn(0, r), -1, 0, 1, -1, MIN, MAX);
    s.refuses("swap", MajorityIndex::new, (x, i) -> x.swap(i, i), -1, 0, -1, 1, MIN, MAX);
    s.refuses("insert", MajorityIndex::new, (x, i) -> x.insert(i, 1), -1, 1, -1, 160, MIN, MAX);
    s.due("insert(0, 1)", empty().insert(0, 1), 1);
    s.refuses("remove", MajorityIndex::new, (x, i) -> x.remove(i), NO_VALUE, 0, -1, 1, MIN, MAX);
    s.refuses("at", MajorityIndex::new, (x, i) -> x.at(i), THROWS, 0, -1, 1, MIN, MAX);
    s.refuses("count to", MajorityIndex::new, (x, r) -> x.count(0, 0, r), -1, 0, 1, -1);
    s.refuses("place", MajorityIndex::new, (x, k) -> x.place(0, k), -1, 0, 1, -1);
    s.due("values()", empty().values(), 0);
  }

  private void newObjectAndSummaries() {
    s.promise(1, "An empty ROW");
    int[] ends = {0, 1, -1, 160, MAX, MIN};
    s.refuses("node to", MajorityIndex::new, (x, r) -> x.node(0, r), -1, ends);
    s.refuses("vote to", MajorityIndex::new, (x, r) -> x.vote(0, r, 0, 0), THROWS, ends);
    s.refuses("loss to", MajorityIndex::new, (x, r) -> x.loss(0, r), -1, ends);
    s.refuses("cancelled to", MajorityIndex::new, (x, r) -> x.cancelled(0, r), -1, ends);
    s.refuses("above, how many,", MajorityIndex::new, (x, i) -> x.above(i, -1, 0), -1, ends);
    s.refuses("above", MajorityIndex::new, (x, i) -> x.above(0, i, 0), -1, ends);
    s.refuses("holds", MajorityIndex::new, (x, i) -> x.holds(i), -1, ends);
    s.refuses("parts to", MajorityIndex::new, (x, r) -> x.parts(0, r), -1, ends);
    s.refuses("part to", MajorityIndex::new, (x, r) -> x.part(0, r, 0, 0), -1, ends);
    s.refuses("summary to", MajorityIndex::new, (x, r) -> x.summary(0, r, 0), -1, ends);
    s.refuses("candidate to", MajorityIndex::new, (x, r) -> x.candidate(0, r, 0, 0), THROWS, ends);
    s.refuses("lost to", MajorityIndex::new, (x, r) -> x.lost(0, 0, r), -1, ends);
    s.refuses("surely to", MajorityIndex::new, (x, r) -> x.surely(0, r), NO_VALUE, ends);
  }

  private void newObjectAndLaterCalls() {
    s.promise(1, "An empty ROW");
    int[] ends = {0, 1, -1, 160, MAX, MIN};
    s.refuses("heavy to", MajorityIndex::new, (x, r) -> x.heavy(0, r, 1, 2), -1, ends);
    s.refuses("heavyAt to", MajorityIndex::new, (x, r) -> x.heavyAt(0, r, 1, 2, 0, 0), THROWS, ends);
    s.refuses("failed to", MajorityIndex::new, (x, r) -> x.failed(0, r, 1, 2), -1, ends);
    s.refuses("least to", MajorityIndex::new, (x, r) -> x.least(0, r, 1, 2), -1, ends);
    s.refuses("majority to", MajorityIndex::new, (x, r) -> x.majority(0, r), NO_VALUE, ends);
    s.refuses("margin to", MajorityIndex::new, (x, r) -> x.margin(0, 0, r), NO_VALUE, ends);
    s.refuses("both to", MajorityIndex::new, (x, r) -> x.both(0, r, 0, r, 1, 2), -1, ends);
    s.refuses("bothAt to", MajorityIndex::new, (x, r) -> x.bothAt(0, r, 0, r, 1, 2, 0), NO_VALUE, ends);
    s.refuses("longest of", MajorityIndex::new, (x, what) -> x.longest(0, 1, 2, what), -1, ends);
    s.refuses("reach", MajorityIndex::new, (x, l) -> x.reach(l), -1, ends);
    s.refuses("parted to", MajorityIndex::new, (x, r) -> x.parted(0, r), -1, ends);
    s.refuses("cut to", MajorityIndex::new, (x, r) -> x.cut(0, r), -1, ends);
    s.due("majorities()", empty().majorities(), 0);
    s.refuses("windows, 0,", MajorityIndex::new, (x, w) -> x.windows(w, 1, 2, 0), -1, ends);
    s.refuses("windows, 1,", MajorityIndex::new, (x, w) -> x.windows(w, 1, 2, 1), NO_VALUE, ends);
    s.refuses("windows, 2,", MajorityIndex::new, (x, w) -> x.windows(w, 1, 2, 2), -1, ends);
    s.refuses("needs to", MajorityIndex::new, (x, r) -> x.needs(0, 0, r, 1, 2), -1, ends);
    s.refuses("spares to", MajorityIndex::new, (x, r) -> x.spares(0, 0, r, 1, 2), -1, ends);
    s.refuses("would to", MajorityIndex::new, (x, r) -> x.would(0, 0, 0, r), NO_VALUE, ends);
    s.refuses("swings to", MajorityIndex::new, (x, r) -> x.swings(0, r, 0, 0), -1, ends);
  }

  private void feed() {
    s.promise(2, "of a its higher 16 bits, its lower ones (both as signed numbers), of b likewise");
    MajorityIndex x = empty();
    s.due("feed", x.feed(0x80007fff, 0x0000ffff), 4);
    s.rowIs(x, -32768, 32767, 0, -1);
    s.due("feed(MAX, MIN)", x.feed(MAX, MIN), 8);
    s.rowIs(x, -32768, 32767, 0, -1, 32767, -1, -32768, 0);
    s.due("feed", x.feed(0x0001ffff, 0xffff0001), 12);
    s.rowIs(x, -32768, 32767, 0, -1, 32767, -1, -32768, 0, 1, -1, -1, 1);
    s.promise(2, "Four VALUES come behind the ROW");
    MajorityIndex grown = eight();
    s.due("told(2)", grown.told(2), 15);
    s.due("feed", grown.feed(0x00090009, 0x00090009), 12);
    s.due("told(2)", grown.told(2), 23);
    s.due("vote(0, 12, 0, 0)", grown.vote(0, 12, 0, 0), 9);
    s.promise(2, "NONE, and none come, if there would be more than 160");
    s.due("feed to 156", Sentences.unlike(156).feed(1, 2), 160);
    for (int length = 157; length <= 160; length++) {
      int there = length;
      s.leavesNoTrace("feed to " + there, () -> Sentences.unlike(there), y -> y.feed(1, 2), -1);
    }
  }

  private void end() {
    s.promise(3, "The ROW has its first n VALUES alone: n");
    s.leavesNoTrace("end(8)", Sentences::eight, x -> x.end(8), 8);
    MajorityIndex x = eight();
    s.due("end(7)", x.end(7), 7);
    s.rowIs(x, 5, 5, 9, 9, 9, -3, 5);
    s.due("end(1)", x.end(1), 1);
    s.rowIs(x, 5);
    s.due("told(2)", x.told(2), 1);
    s.due("end(0)", x.end(0), 0);
    s.rowIs(x);
    s.due("told(2)", x.told(2), 0);
    s.due("feed", x.feed(0x00010002, 0x00030004), 4);
    s.rowIs(x, 1, 2, 3, 4);
    s.promise(3, "NONE: it has not so many");
    s.refuses("end", Sentences::eight, (y, n) -> y.end(n), -1, 9, 160, 161, MAX);
    s.refuses("end", Sentences::full, (y, n) -> y.end(n), -1, 161, MAX);
    s.promise(3, "n is below 0");
    s.refuses("end", Sentences::eight, (y, n) -> y.end(n), -1, -1, -2, -8, MIN);
  }

  private void slots() {
    s.promise(4, "K: what it was");
    MajorityIndex x = eight();
    s.due("slots(2)", x.slots(2), 2);
    s.due("slots(1)", x.slots(1), 2);
    s.due("slots(6)", x.slots(6), 1);
    s.due("slots(6)", x.slots(6), 6);
    s.due("slots(3)", x.slots(3), 6);
    s.promise(4, "NONE: others");
    s.refuses("slots", Sentences::eight, (y, k) -> y.slots(k), -1, 0, 7, -1, -2, 8, 258, 65538, MIN, MAX);
  }

  private void set() {
    s.promise(5, "A PLACE has another VALUE (or the same)");
    for (int i = 0; i < 8; i++) {
      int place = i;
      s.leavesNoTrace("set to the same", Sentences::eight, x -> x.set(place, x.at(place)), 0);
    }
    s.promise(5, "of how many NODES SUMMARIES are others than ahead of it");
    s.due("set of one", Sentences.of(1).set(0, 2), 1);
    s.due("set of two", Sentences.of(1, 1).set(1, 2), 2);
    s.due("set at the upper end", Sentences.alike(160, 4).set(159, 7), 9);
    s.due("set at the lower end", Sentences.alike(160, 4).set(0, 7), 8);
    s.promise(5, "(VOTES or LOSS)");
    // By one slot 1 2 and 1 3 both leave no votes and a loss of 1.
    s.due("set, the place alone", Sentences.by(1, 1, 2).set(1, 3), 1);
    // The root's votes are 2:1 ahead of it and behind it, but its loss goes from 4 to 5.
    MajorityIndex y = Sentences.of(4, 2, 2, 2, 4, 3, 1, 4, 1, 1, 2, 1, 4, 3, 3, 3);
    s.due("loss(0, 16)", y.loss(0, 16), 4);
    s.due("vote(0, 16, 0, 1)", y.vote(0, 16, 0, 1), 1);
    s.due("set(8, 4)", y.set(8, 4), 5);
    s.due("loss(0, 16)", y.loss(0, 16), 5);
    s.due("vote(0, 16, 0, 1)", y.vote(0, 16, 0, 1), 1);
    s.promise(5, "NONE: others");
    s.refuses("set at", Sentences::eight, (x, i) -> x.set(i, 1), -1, -1, 8, 9, 160, MIN, MAX);
    s.refuses("set at", Sentences::full, (x, i) -> x.set(i, 1), -1, -1, 160, MAX);
    s.refusesWrongValues("set", (x, value) -> x.set(7, value), -1);
  }

  private void fill() {
    s.promise(6, "All PLACES of a RANGE have a VALUE: likewise");
    s.leavesNoTrace("fill with what is there", Sentences::eight, x -> x.fill(2, 5, 9), 0);
    MajorityIndex all = Sentences.alike(160, 4);
    s.due("fill of all", all.fill(0, 160, 7), 319);
    s.due("at(0)", all.at(0), 7);
    s.due("at(159)", all.at(159), 7);
    MajorityIndex x = eight();
    s.due("fill of the last place", x.fill(7, 8, 1), 4);
    s.rowIs(x, 5, 5, 9, 9, 9, -3, 5, 1);
    s.due("fill of the first place", x.fill(0, 1, 1), 4);
    s.rowIs(x, 1, 5, 9, 9, 9, -3, 5, 1);
    s.due("fill of one", Sentences.of(1).fill(0, 1, 2), 1);
    s.promise(6, "NONE: others");
    s.refusesWrongRanges("fill", (y, l, r) -> y.fill(l, r, 1), -1);
    s.refusesWrongValues("fill", (y, value) -> y.fill(0, 1, value), -1);
    s.refuses("fill to", Sentences::full, (y, r) -> y.fill(0, r, 1), -1, 161, 0, MAX);
  }

  private void turn() {
    s.promise(7, "VALUES of a RANGE lie the other way round: likewise");
    s.leavesNoTrace("turn of one place", Sentences::eight, x -> x.turn(5, 6), 0);
    s.leavesNoTrace("turn of like ones", Sentences::eight, x -> x.turn(2, 5), 0);
    s.leavesNoTrace("turn of what reads the same", () -> Sentences.of(1, 2, 3, 2, 1), x -> x.turn(0, 5), 0);
    MajorityIndex two = eight();
    s.due("turn of two places", two.turn(4, 6), 2);
    s.rowIs(two, 5, 5, 9, 9, -3, 9, 5, 5);
    // 4 and 6 are others, (4,6) and (6,8), too; (4,8) and the root are not.
    MajorityIndex odd = eight();
    s.due("turn of three places", odd.turn(4, 7), 4);
    s.rowIs(odd, 5, 5, 9, 9, 5, -3, 9, 5);
    MajorityIndex all = Sentences.full();
    all.turn(0, 160);
    s.due("at(0)", all.at(0), 156);
    s.due("at(79)", all.at(79), 77);
    s.due("at(159)", all.at(159), -3);
    s.promise(7, "NONE: others");
    s.refusesWrongRanges("turn", (x, l, r) -> x.turn(l, r), -1);
    s.refuses("turn to", Sentences::full, (x, r) -> x.turn(0, r), -1, 161, 0, MAX);
  }

  private void swap() {
    s.promise(8, "VALUES of two PLACES change for one another (also one with itself): likewise");
    for (int i = 0; i < 8; i++) {
      int place = i;
      s.leavesNoTrace("swap with itself", Sentences::eight, x -> x.swap(place, place), 0);
    }
    s.leavesNoTrace("swap of like ones", Sentences::eight, x -> x.swap(0, 7), 0);
    MajorityIndex x = eight();
    s.due("swap(1, 2)", x.swap(1, 2), 4);
    s.rowIs(x, 5, 9, 5, 9, 9, -3, 5, 5);
    MajorityIndex y = eight();
    s.due("swap(2, 1)", y.swap(2, 1), 4);
    s.rowIs(y, 5, 9, 5, 9, 9, -3, 5, 5);
    MajorityIndex ends = Sentences.of(1, 2);
    s.due("swap(1, 0)", ends.swap(1, 0), 2);
    s.rowIs(ends, 2, 1);
    s.promise(8, "NONE: others");
    int[] wrong = {-1, 8, 9, 160, MIN, MAX};
    s.refuses("swap of 0 and", Sentences::eight, (z, j) -> z.swap(0, j), -1, wrong);
    s.refuses("swap of 0 with", Sentences::eight, (z, i) -> z.swap(i, 0), -1, wrong);
    s.refuses("swap with itself", Sentences::eight, (z, i) -> z.swap(i, i), -1, wrong);
  }

  private void insert() {
    s.promise(9, "A VALUE is put in ahead of a PLACE (N: behind all): how many there are then");
    MajorityIndex x = Sentences.of(1, 2);
    s.due("insert(2, 3)", x.insert(2, 3), 3);
    s.rowIs(x, 1, 2, 3);
    s.due("insert(2, 4)", x.insert(2, 4), 4);
    s.rowIs(x, 1, 2, 4, 3);
    s.due("insert(0, 5)", x.insert(0, 5), 5);
    s.rowIs(x, 5, 1, 2, 4, 3);
    MajorityIndex first = empty();
    s.due("insert into none", first.insert(0, -7), 1);
    s.rowIs(first, -7);
    MajorityIndex last = Sentences.unlike(159);
    s.due("insert of the 160th", last.insert(0, 7), 160);
    s.due("at(0)", last.at(0), 7);
    s.due("at(159)", last.at(159), 155);
    s.promise(9, "NONE: others");
    s.refuses("insert", Sentences::eight, (y, i) -> y.insert(i, 1), -1, 9, -1, 160, MIN, MAX);
    s.refusesWrongValues("insert", (y, value) -> y.insert(8, value), -1);
    s.promise(9, "160 there are");
    s.refuses("insert", Sentences::full, (y, i) -> y.insert(i, 1), -1, 0, 1, 80, 159, 160, 161);
  }

  private void remove() {
    s.promise(10, "A PLACE goes: its VALUE");
    MajorityIndex x = Sentences.of(1, -1, 3, -32768);
    s.due("remove of the last", x.remove(3), -32768);
    s.rowIs(x, 1, -1, 3);
    s.due("remove of the first", x.remove(0), 1);
    s.rowIs(x, -1, 3);
    s.due("remove of -1", x.remove(0), -1);
    s.rowIs(x, 3);
    s.due("remove of the only one", x.remove(0), 3);
    s.rowIs(x);
    MajorityIndex full = Sentences.full();
    s.due("remove(159)", full.remove(159), 156);
    s.due("remove(0)", full.remove(0), -3);
    s.due("told(0)", full.told(0), 158);
    s.due("at(157)", full.at(157), 155);
    s.promise(10, "NO_VALUE: others");
    s.refuses("remove", Sentences::eight, (y, i) -> y.remove(i), NO_VALUE, -1, 8, 9, MIN, MAX);
    s.refuses("remove", Sentences::full, (y, i) -> y.remove(i), NO_VALUE, -1, 160, 161, MAX);
  }

  private void at() {
    s.promise(11, "NoSuchElementException: no such one");
    s.refuses("at", Sentences::eight, (x, i) -> x.at(i), THROWS, -1, 8, 9, 159, 160, MIN, MAX);
    s.refuses("at", Sentences::full, (x, i) -> x.at(i), THROWS, -1, 160, 161, MIN, MAX);
    MajorityIndex x = eight();
    x.end(5);
    s.dueThrow("at(5) behind end(5)", x, y -> y.at(5));
    x.remove(0);
    s.dueThrow("at(4) behind remove(0)", x, y -> y.at(4));
    s.due("at(3)", x.at(3), 9);
  }

  private void count() {
    s.promise(12, "How often a VALUE is in a RANGE");
    s.due("count of all", Sentences.alike(160, 4).count(4, 0, 160), 160);
    s.due("count of none", Sentences.alike(160, 4).count(5, 0, 160), 0);
    s.due("count up to its place", eight().count(-3, 0, 5), 0);
    s.due("count with its place", eight().count(-3, 0, 6), 1);
    s.due("count from its place on", eight().count(-3, 5, 8), 1);
    s.due("count behind its place", eight().count(-3, 6, 8), 0);
    s.promise(12, "NONE: others");
    s.refusesWrongRanges("count", (x, l, r) -> x.count(9, l, r), -1);
    s.refusesWrongValues("count", (x, value) -> x.count(value, 0, 1), -1);
  }

  private void place() {
    s.promise(13, "The PLACE where a VALUE is for the k-th time (from 0) from the left");
    s.due("place(5, 0)", eight().place(5, 0), 0);
    s.due("place(5, 1)", eight().place(5, 1), 1);
    s.due("place(5, 2)", eight().place(5, 2), 6);
    s.due("place(5, 3)", eight().place(5, 3), 7);
    s.due("the 160th", Sentences.alike(160, 4).place(4, 159), 159);
    s.promise(13, "NONE: it is not so often there");
    s.refuses("place of 5,", Sentences::eight, (x, k) -> x.place(5, k), -1, 4, 5, 160, -1, MIN, MAX);
    s.refuses("place of 7,", Sentences::eight, (x, k) -> x.place(7, k), -1, 0, 1, -1, MIN, MAX);
    s.due("the 161st", Sentences.alike(160, 4).place(4, 160), -1);
    s.refusesWrongValues("place", (x, value) -> x.place(value, 0), -1);
    MajorityIndex x = eight();
    x.end(7);
    s.due("place(5, 3) behind end(7)", x.place(5, 3), -1);
  }

  private void values() {
    s.promise(14, "Unlike VALUES of the ROW");
    s.due("of none", empty().values(), 0);
    s.due("of one", Sentences.of(-1).values(), 1);
    s.due("of like ones", Sentences.alike(160, 4).values(), 1);
    s.due("of unlike ones", Sentences.full().values(), 160);
    s.due("of both ends", Sentences.of(-32768, 32767, -32768).values(), 2);
    MajorityIndex x = eight();
    x.end(5);
    s.due("behind end(5)", x.values(), 2);
  }

  private void node() {
    s.promise(15, "VOTES of the NODE that is this RANGE");
    s.due("one place", eight().node(5, 6), 1);
    s.due("as many as K", eight().node(0, 8), 2);
    s.due("no votes", Sentences.by(1, 1, 2).node(0, 2), 0);
    s.promise(15, "-2: there is none such");
    int nodes = 0;
    int none = 0;
    MajorityIndex x = eight();
    for (int l = 0; l < 8; l++) {
      for (int r = l + 1; r <= 8; r++) {
        int votes = x.node(l, r);
        nodes += votes >= 0 ? 1 : 0;
        none += votes == -2 ? 1 : 0;
      }
    }
    s.due("ranges that are nodes", nodes, 15);
    s.due("ranges that are none", none, 21);
    s.due("all but the last of 160", Sentences.full().node(0, 159), -2);
    MajorityIndex shorter = eight();
    shorter.end(4);
    s.due("what was a node ahead of end(4)", eight().node(4, 8), 1);
    s.due("behind end(4)", shorter.node(4, 8), -1);
    shorter.feed(0x00010001, 0x00010001);
    shorter.end(6);
    s.due("what was a node ahead of end(6)", shorter.node(4, 6), 1);
    s.due("what is none any more", shorter.node(0, 4), -2);
    s.promise(15, "NONE: others");
    s.refusesWrongRanges("node", (y, l, r) -> y.node(l, r), -1);
  }

  private void vote() {
    s.promise(16, "Of its i-th VOTE, what 0: the VALUE, 1: the number");
    s.due("the first's value", eight().vote(0, 8, 0, 0), 5);
    s.due("the first's number", eight().vote(0, 8, 0, 1), 3);
    s.due("the last's value", eight().vote(0, 8, 1, 0), 9);
    s.due("the last's number", eight().vote(0, 8, 1, 1), 2);
    s.promise(16, "NoSuchElementException: no such NODE, others, none such");
    s.refuses("vote of (0, 7) and the like, to", Sentences::eight, (x, r) -> x.vote(0, r, 0, 0), THROWS, 7, 6, 5, 3);
    s.refusesWrongRanges("vote", (x, l, r) -> x.vote(l, r, 0, 1), THROWS);
    s.refuses("vote", Sentences::eight, (x, i) -> x.vote(0, 8, i, 0), THROWS, 2, 3, 6, -1, MIN, MAX);
    s.refuses("vote of one vote", Sentences::eight, (x, i) -> x.vote(4, 8, i, 0), THROWS, 1, 2, -1, MIN, MAX);
    s.refuses("vote of one place", Sentences::eight, (x, i) -> x.vote(4, 5, i, 0), THROWS, 1, -1, MIN, MAX);
    s.refuses("vote of no votes", () -> Sentences.by(1, 1, 2), (x, i) -> x.vote(0, 2, i, 0), THROWS, 0, 1, -1);
    s.refuses("vote with what", Sentences::eight, (x, what) -> x.vote(0, 8, 0, what), THROWS, 2, 3, -1, MIN, MAX);
  }

  private void loss() {
    s.promise(17, "LOSS of a NODE");
    s.due("of one place", eight().loss(0, 1), 0);
    s.due("of the root", eight().loss(0, 8), 1);
    s.promise(17, "-2, NONE as node()");
    s.refuses("loss to", Sentences::eight, (x, r) -> x.loss(0, r), -2, 3, 5, 6, 7);
    s.refusesWrongRanges("loss", (x, l, r) -> x.loss(l, r), -1);
  }

  private void cancelled() {
    s.promise(18, "(0: by none, one PLACE)");
    s.due("by none, though there is a loss", eight().cancelled(0, 8), 0);
    s.due("by none, without a loss", eight().cancelled(0, 4), 0);
    s.due("one place", eight().cancelled(7, 8), 0);
    s.due("one place that is all", Sentences.by(1, 3).cancelled(0, 1), 0);
    s.due("by 1", eight().cancelled(4, 8), 1);
    MajorityIndex halves = Sentences.alike(160, 4);
    halves.fill(0, 80, 3);
    halves.slots(1);
    s.due("by 80", halves.cancelled(0, 160), 80);
    s.promise(18, "-2, NONE as node()");
    s.refuses("cancelled to", Sentences::eight, (x, r) -> x.cancelled(0, r), -2, 3, 5, 6, 7);
    s.refusesWrongRanges("cancelled", (x, l, r) -> x.cancelled(l, r), -1);
  }

  private void above() {
    s.promise(19, "Of the NODES that have a PLACE, from the root (0) on, the i-th, what 0: its l, 1: its r");
    MajorityIndex x = eight();
    s.due("the root's l", x.above(7, 0, 0), 0);
    s.due("the root's r", x.above(7, 0, 1), 8);
    s.due("the last one's l", x.above(7, 3, 0), 7);
    s.due("the last one's r", x.above(7, 3, 1), 8);
    s.promise(19, "the number of the VALUE of the PLACE among its VOTES (0: it is none of them)");
    s.due("of the place alone", x.above(5, 3, 2), 1);
    s.due("one of them", x.above(5, 2, 2), 1);
    s.due("none of them", x.above(5, 1, 2), 0);
    s.due("none of them", x.above(5, 0, 2), 0);
    s.promise(19, "how many there are (i NONE)");
    s.due("of one", Sentences.of(4).above(0, -1, 0), 1);
    s.due("of eight", x.above(0, -1, 2), 4);
    s.due("of 160, the first", Sentences.full().above(0, -1, 0), 8);
    s.due("of 160, the last", Sentences.full().above(159, -1, 1), 9);
    s.promise(19, "NONE: others, none such");
    int[] wrong = {-1, 8, 9, MIN, MAX};
    s.refuses("above at", Sentences::eight, (y, i) -> y.above(i, 0, 0), -1, wrong);
    s.refuses("above, how many, at", Sentences::eight, (y, i) -> y.above(i, -1, 0), -1, wrong);
    s.refuses("above, node", Sentences::eight, (y, i) -> y.above(0, i, 0), -1, 4, 5, -2, MIN, MAX);
    s.refuses("above with what", Sentences::eight, (y, what) -> y.above(0, 0, what), -1, 3, 4, -1, MIN, MAX);
    s.due("of one, node 1", Sentences.of(4).above(0, 1, 0), -1);
    s.refuses("above of 160, node", Sentences::full, (y, i) -> y.above(0, i, 0), -1, 8, 9, 318, 319, MAX);
  }

  private void holds() {
    s.promise(20, "from the PLACE alone on, one above the other, have its VALUE among their VOTES");
    s.due("of one", Sentences.of(4).holds(0), 1);
    s.due("the place alone", Sentences.by(1, 1, 2).holds(1), 1);
    s.due("all of them", eight().holds(0), 4);
    s.due("all of 160", Sentences.alike(160, 4).holds(159), 9);
    s.promise(20, "till the first that has not");
    // The root has 9 among its votes again, but (4,8) has not.
    s.due("9 is a vote of the root", eight().above(4, 0, 2), 2);
    s.due("holds(4)", eight().holds(4), 2);
    s.promise(20, "NONE: others");
    s.refuses("holds", Sentences::eight, (x, i) -> x.holds(i), -1, -1, 8, 9, MIN, MAX);
    s.refuses("holds", Sentences::full, (x, i) -> x.holds(i), -1, -1, 160, MAX);
  }

  private void parts() {
    s.promise(21, "How many PARTS a RANGE has");
    s.due("of the root", eight().parts(0, 8), 1);
    s.due("of one place", eight().parts(7, 8), 1);
    s.due("of one", Sentences.of(4).parts(0, 1), 1);
    s.due("of all of 160", Sentences.full().parts(0, 160), 1);
    s.due("of all but the ends", Sentences.full().parts(1, 159), 13);
    s.promise(21, "NONE: others");
    s.refusesWrongRanges("parts", (x, l, r) -> x.parts(l, r), -1);
  }

  private void part() {
    s.promise(22, "The i-th PART, what 0: its l, 1: its r");
    s.due("the first's l", eight().part(1, 7, 0, 0), 1);
    s.due("the first's r", eight().part(1, 7, 0, 1), 2);
    s.due("the last's l", eight().part(1, 7, 3, 0), 6);
    s.due("the last's r", eight().part(1, 7, 3, 1), 7);
    s.promise(22, "NONE: others, none such");
    s.refuses("part", Sentences::eight, (x, i) -> x.part(1, 7, i, 0), -1, 4, 5, -1, MIN, MAX);
    s.refuses("part of a node", Sentences::eight, (x, i) -> x.part(0, 8, i, 1), -1, 1, 2, -1, MIN, MAX);
    s.refuses("part of 160", Sentences::full, (x, i) -> x.part(1, 159, i, 0), -1, 13, 14, 319, MAX);
    s.refuses("part with what", Sentences::eight, (x, what) -> x.part(1, 7, 0, what), -1, 2, 3, -1, MIN, MAX);
    s.refusesWrongRanges("part", (x, l, r) -> x.part(l, r, 0, 1), -1);
  }

  private void summary() {
    s.promise(23, "what 0: how many VOTES, 1: their numbers together, 2: LOSS");
    MajorityIndex none = Sentences.by(1, 1, 2, 3, 4);
    s.due("no votes, how many", none.summary(0, 4, 0), 0);
    s.due("no votes, together", none.summary(0, 4, 1), 0);
    s.due("no votes, loss", none.summary(0, 4, 2), 2);
    MajorityIndex one = Sentences.of(4);
    s.due("one place, how many", one.summary(0, 1, 0), 1);
    s.due("one place, together", one.summary(0, 1, 1), 1);
    s.due("one place, loss", one.summary(0, 1, 2), 0);
    s.due("all of 160, together", Sentences.alike(160, 4).summary(0, 160, 1), 160);
    // The parts' loss and what goes as they come together: (1,4) has 5:1 9:2 and (4,8) 5:1, loss 1.
    s.due("a part's loss", eight().summary(1, 8, 2), 1);
    s.due("a loss as parts come together", eight().summary(1, 6, 2), 1);
    s.promise(23, "NONE: others");
    s.refuses("summary with what", Sentences::eight, (x, what) -> x.summary(0, 8, what), -1, 3, 4, -1, MIN, MAX);
    s.refusesWrongRanges("summary", (x, l, r) -> x.summary(l, r, 2), -1);
  }

  private void candidate() {
    s.promise(24, "Of its i-th VOTE, what 0: the VALUE, 1: the number, 2: how often it is there");
    s.due("the first's value", eight().candidate(1, 7, 0, 0), 9);
    s.due("the first's number", eight().candidate(1, 7, 0, 1), 2);
    s.due("how often the first is there", eight().candidate(1, 7, 0, 2), 3);
    s.due("the last's value", eight().candidate(1, 7, 1, 0), 5);
    s.promise(24, "NoSuchElementException: others, none such");
    s.refuses("candidate", Sentences::eight, (x, i) -> x.candidate(1, 7, i, 0), THROWS, 2, 3, 6, -1, MIN, MAX);
    s.refuses("candidate of no votes", () -> Sentences.by(1, 1, 2), (x, i) -> x.candidate(0, 2, i, 0), THROWS, 0, 1);
    s.refuses("candidate with what", Sentences::eight, (x, what) -> x.candidate(1, 7, 0, what), THROWS, 3, 4, -1, MIN,
        MAX);
    s.refusesWrongRanges("candidate", (x, l, r) -> x.candidate(l, r, 0, 2), THROWS);
  }

  private void lost() {
    s.promise(25, "less its number among VOTES of its SUMMARY (0, if it is none): 0 to LOSS");
    s.due("none of the votes, all lost", eight().lost(-3, 1, 7), 1);
    s.due("a vote, as much as LOSS", eight().lost(9, 1, 7), 1);
    s.due("a vote, nothing lost", eight().lost(9, 0, 4), 0);
    s.due("not there", eight().lost(7, 0, 8), 0);
    s.due("one place", eight().lost(5, 0, 1), 0);
    MajorityIndex halves = Sentences.alike(160, 4);
    halves.fill(0, 80, 3);
    halves.slots(1);
    s.due("80 of 160", halves.lost(4, 0, 160), 80);
    s.promise(25, "NONE: others");
    s.refusesWrongRanges("lost", (x, l, r) -> x.lost(9, l, r), -1);
    s.refusesWrongValues("lost", (x, value) -> x.lost(value, 4, 8), -1);
  }

  private void surely() {
    s.promise(26, "if its number is above LOSS and above the second one's and LOSS together");
    // Of (3,7) the summary is 2:1, loss 1: 3 is above 1 and 1; 2 of (1,7) is not.
    MajorityIndex x = Sentences.of(1, 1, 1, 2, 2, 3, 4);
    s.due("3 above 1 and loss 1", x.surely(0, 7), 1);
    s.due("2 not above 1 and loss 1", x.surely(1, 7), NO_VALUE);
    s.due("2 above 1 and no loss", Sentences.of(1, 1, 2).surely(0, 3), 1);
    s.due("1 not above 1 and no loss", Sentences.of(1, 2).surely(0, 2), NO_VALUE);
    s.promise(26, "(LOSS alone, if there is no second one)");
    s.due("2 above loss 1", eight().surely(2, 7), 9);
    s.due("1 not above loss 1", eight().surely(4, 8), NO_VALUE);
    s.due("1 above no loss", eight().surely(5, 6), -3);
    s.promise(26, "NO_VALUE: it tells none, others");
    s.due("no votes", Sentences.by(1, 1, 2, 3, 4).surely(0, 4), NO_VALUE);
    s.refusesWrongRanges("surely", (y, l, r) -> y.surely(l, r), NO_VALUE);
  }

  private void heavy() {
    s.promise(27, "How many VALUES are HEAVY");
    s.due("none", eight().heavy(0, 8, 1, 2), 0);
    s.due("as many as K", Sentences.by(6, 1, 2, 3, 4, 5, 6).heavy(0, 6, 1, 7), 6);
    s.due("seven by sevenths", Sentences.by(6, 1, 2, 3, 4, 5, 6, 7).heavy(0, 7, 1, 7), 0);
    s.due("one place", eight().heavy(5, 6, 998, 999), 1);
    s.promise(27, "-2: K is not ENOUGH");
    s.refuses("heavy by 1 of", Sentences::eight, (x, q) -> x.heavy(0, 8, 1, q), -2, 4, 5, 998, 999);
    s.due("by 333, 999", eight().heavy(0, 8, 333, 999), 2);
    s.due("by 332, 999", eight().heavy(0, 8, 332, 999), -2);
    s.promise(27, "NONE: others");
    s.refusesWrongRanges("heavy", (x, l, r) -> x.heavy(l, r, 1, 2), -1);
    s.refusesWrongRanges("heavy, K not enough,", (x, l, r) -> x.heavy(l, r, 1, 4), -1);
    s.refusesWrongShares("heavy", (x, p, q) -> x.heavy(0, 1, p, q), -1);
  }

  private void heavyAt() {
    s.promise(28, "(how often they are there, most first, of like ones the least VALUE)");
    MajorityIndex ends = Sentences.of(32767, -32768);
    s.due("of like ones the least", ends.heavyAt(0, 2, 1, 3, 0, 0), -32768);
    s.due("of like ones the greatest", ends.heavyAt(0, 2, 1, 3, 1, 0), 32767);
    MajorityIndex most = Sentences.of(-32768, 32767, 32767);
    s.due("most first", most.heavyAt(0, 3, 333, 999, 0, 0), 32767);
    // The votes are 2:3 1:2, but both are there thrice.
    MajorityIndex x = Sentences.of(1, 1, 3, 4, 2, 2, 2, 1);
    s.due("the first vote", x.candidate(0, 8, 0, 0), 2);
    s.due("the first of like ones", x.heavyAt(0, 8, 1, 3, 0, 0), 1);
    s.due("how often", x.heavyAt(0, 8, 1, 3, 0, 1), 3);
    s.promise(28, "NoSuchElementException: others, none such, K is not ENOUGH");
    s.refuses("heavyAt", Sentences::eight, (y, i) -> y.heavyAt(0, 8, 1, 3, i, 0), THROWS, 2, 3, -1, MIN, MAX);
    s.refuses("heavyAt of no heavy ones", Sentences::eight, (y, i) -> y.heavyAt(0, 8, 1, 2, i, 0), THROWS, 0, 1, -1);
    s.refuses("heavyAt with what", Sentences::eight, (y, what) -> y.heavyAt(0, 8, 1, 3, 0, what), THROWS, 2, 3, -1,
        MIN, MAX);
    s.refuses("heavyAt by 1 of", Sentences::eight, (y, q) -> y.heavyAt(0, 8, 1, q, 0, 0), THROWS, 4, 5, 999);
    s.refusesWrongRanges("heavyAt", (y, l, r) -> y.heavyAt(l, r, 1, 3, 0, 1), THROWS);
    s.refusesWrongShares("heavyAt", (y, p, q) -> y.heavyAt(0, 1, p, q, 0, 0), THROWS);
  }

  private void failed() {
    s.promise(29, "VOTES of the SUMMARY that are not HEAVY");
    s.due("none of them", eight().failed(0, 8, 1, 3), 0);
    s.due("all of them", eight().failed(0, 8, 1, 2), 2);
    s.due("no votes", Sentences.by(1, 1, 2).failed(0, 2, 1, 2), 0);
    s.due("one place by all", eight().failed(0, 1, 1, 1), 1);
    s.promise(29, "-2, NONE as heavy()");
    s.refuses("failed by 1 of", Sentences::eight, (x, q) -> x.failed(0, 8, 1, q), -2, 4, 5, 999);
    s.refusesWrongRanges("failed", (x, l, r) -> x.failed(l, r, 1, 4), -1);
    s.refusesWrongShares("failed", (x, p, q) -> x.failed(0, 1, p, q), -1);
  }

  private void least() {
    s.promise(30, "The least K (1 to 6) by which all that are HEAVY would be among VOTES of the SUMMARY of the RANGE");
    for (int k = 1; k <= 6; k++) {
      int slots = k;
      s.leavesNoTrace("least of K unlike ones", () -> Sentences.unlike(slots), x -> x.least(0, slots, 1, 999), k);
    }
    s.leavesNoTrace("least of no heavy ones", Sentences::eight, x -> x.least(0, 8, 1, 1), 1);
    s.leavesNoTrace("least of a part", Sentences::eight, x -> x.least(1, 7, 1, 9), 3);
    // 1 alone is heavy, but by one slot (0,3) leaves 1, (3,6) leaves 2, and the root nothing.
    s.leavesNoTrace("least above how many are heavy", () -> Sentences.of(1, 2, 1, 2, 1, 3), x -> x.least(0, 6, 2, 5), 2);
    s.promise(30, "(ENOUGH or not; whatever K is)");
    for (int k = 1; k <= 6; k++) {
      int slots = k;
      s.leavesNoTrace("least by another K", () -> Sentences.by(slots, 5, 5, 9, 9, 9, -3, 5, 5),
          x -> x.least(0, 8, 1, 9), 3);
    }
    s.promise(30, "-2: by none");
    s.leavesNoTrace("least of seven unlike ones", () -> Sentences.unlike(7), x -> x.least(0, 7, 1, 999), -2);
    s.promise(30, "NONE: others, a RANGE of more than 64 PLACES");
    s.leavesNoTrace("least of 64", () -> Sentences.alike(160, 4), x -> x.least(96, 160, 1, 2), 1);
    s.leavesNoTrace("least of 65", () -> Sentences.alike(160, 4), x -> x.least(95, 160, 1, 2), -1);
    s.leavesNoTrace("least of 160", () -> Sentences.alike(160, 4), x -> x.least(0, 160, 1, 2), -1);
    s.leavesNoTrace("least of all of 64", () -> Sentences.alike(64, 4), x -> x.least(0, 64, 1, 2), 1);
    s.leavesNoTrace("least of all of 65", () -> Sentences.alike(65, 4), x -> x.least(0, 65, 1, 2), -1);
    s.refusesWrongRanges("least", (x, l, r) -> x.least(l, r, 1, 3), -1);
    s.refusesWrongShares("least", (x, p, q) -> x.least(0, 1, p, q), -1);
  }

  private void majority() {
    s.promise(31, "NO_VALUE: there is none, others");
    s.due("half of them", eight().majority(0, 8), NO_VALUE);
    s.due("one more than half", eight().majority(0, 5), 9);
    s.due("one place", eight().majority(5, 6), -3);
    s.due("two unlike ones", eight().majority(1, 3), NO_VALUE);
    s.due("none of 160", Sentences.full().majority(0, 160), NO_VALUE);
    s.refusesWrongRanges("majority", (x, l, r) -> x.majority(l, r), NO_VALUE);
  }

  private void margin() {
    s.promise(32, "MARGIN of a VALUE");
    s.due("half of them", eight().margin(5, 0, 8), 0);
    s.due("not there", eight().margin(7, 0, 8), -8);
    s.due("all of them", eight().margin(9, 2, 5), 3);
    s.promise(32, "NO_VALUE: others");
    s.refusesWrongRanges("margin", (x, l, r) -> x.margin(9, l, r), NO_VALUE);
    s.refusesWrongValues("margin", (x, value) -> x.margin(value, 0, 1), NO_VALUE);
  }

  private void both() {
    s.promise(33, "Two RANGES TOGETHER: how many VALUES are HEAVY");
    s.due("one place each", eight().both(0, 1, 7, 8, 998, 999), 1);
    s.due("touching", eight().both(0, 2, 2, 8, 1, 3), 2);
    s.due("touching, the other way round", eight().both(2, 8, 0, 2, 1, 3), 2);
    s.due("none", eight().both(0, 4, 4, 8, 1, 2), 0);
    s.due("all of 160", Sentences.alike(160, 4).both(0, 159, 159, 160, 998, 999), 1);
    s.promise(33, "-2: K is not ENOUGH");
    s.refuses("both by 1 of", Sentences::eight, (x, q) -> x.both(0, 2, 2, 4, 1, q), -2, 4, 5, 999);
    s.promise(33, "-3: they have a PLACE together");
    s.refuses("both to", Sentences::eight, (x, r) -> x.both(0, r, 2, 4, 1, 2), -3, 3, 4, 5, 8);
    s.refuses("both from", Sentences::eight, (x, l) -> x.both(2, 4, l, 8, 1, 2), -3, 0, 1, 2, 3);
    s.due("twice the same", eight().both(3, 4, 3, 4, 1, 2), -3);
    s.promise(33, "NONE: others");
    s.refusesWrongRanges("both, the first,", (x, l, r) -> x.both(l, r, 2, 4, 1, 4), -1);
    s.refusesWrongRanges("both, the second,", (x, l, r) -> x.both(2, 4, l, r, 1, 4), -1);
    s.refusesWrongRanges("both twice", (x, l, r) -> x.both(l, r, l, r, 1, 2), -1);
    s.refusesWrongShares("both", (x, p, q) -> x.both(0, 4, 2, 8, p, q), -1);
  }

  private void bothAt() {
    s.promise(34, "The i-th of them, as heavyAt(), the VALUE");
    s.due("of like ones the least", eight().bothAt(2, 4, 0, 2, 1, 3, 0), 5);
    s.due("of like ones the greatest", eight().bothAt(2, 4, 0, 2, 1, 3, 1), 9);
    s.due("most first", eight().bothAt(2, 5, 0, 2, 1, 3, 0), 9);
    s.promise(34, "NO_VALUE: others, none such, -2, -3");
    s.refuses("bothAt", Sentences::eight, (x, i) -> x.bothAt(2, 4, 0, 2, 1, 3, i), NO_VALUE, 2, 3, -1, -2, MIN, MAX);
    s.refuses("bothAt by 1 of", Sentences::eight, (x, q) -> x.bothAt(2, 4, 0, 2, 1, q, 0), NO_VALUE, 4, 5, 999);
    s.refuses("bothAt to", Sentences::eight, (x, r) -> x.bothAt(0, r, 2, 4, 1, 3, 0), NO_VALUE, 3, 4, 8);
    s.refuses("bothAt of -3,", Sentences::eight, (x, i) -> x.bothAt(0, 3, 2, 4, 1, 3, i), NO_VALUE, -4, -3, -2, -1);
    s.refusesWrongRanges("bothAt, the first,", (x, l, r) -> x.bothAt(l, r, 2, 4, 1, 2, 0), NO_VALUE);
    s.refusesWrongRanges("bothAt, the second,", (x, l, r) -> x.bothAt(2, 4, l, r, 1, 2, 0), NO_VALUE);
    s.refusesWrongShares("bothAt", (x, p, q) -> x.bothAt(0, 1, 1, 2, p, q, 0), NO_VALUE);
  }

  private void longest() {
    s.promise(35, "The longest RANGE in which a VALUE is HEAVY, of several the first, what 0: its l, 1: its r");
    s.due("of several the first, l", eight().longest(5, 1, 2, 0), 0);
    s.due("of several the first, r", eight().longest(5, 1, 2, 1), 3);
    s.due("one place, l", eight().longest(-3, 1, 2, 0), 5);
    s.due("one place, r", eight().longest(-3, 1, 2, 1), 6);
    s.due("all of them, l", eight().longest(5, 1, 3, 0), 0);
    s.due("all of them, r", eight().longest(5, 1, 3, 1), 8);
    s.due("the last of 160", Sentences.full().longest(156, 1, 2, 1), 160);
    s.promise(35, "NONE: there is none, others");
    s.refuses("longest of what is not there", Sentences::eight, (x, what) -> x.longest(7, 1, 999, what), -1, 0, 1);
    s.refuses("longest by all", Sentences::eight, (x, what) -> x.longest(5, 1, 1, what), -1, 0, 1);
    s.refuses("longest with what", Sentences::eight, (x, what) -> x.longest(5, 1, 2, what), -1, 2, 3, -1, MIN, MAX);
    s.refusesWrongValues("longest", (x, value) -> x.longest(value, 1, 2, 1), -1);
    s.refusesWrongShares("longest", (x, p, q) -> x.longest(5, p, q, 1), -1);
  }

  private void reach() {
    s.promise(36, "The greatest r by which a RANGE from l on has a MAJORITY");
    s.due("of one", Sentences.of(4).reach(0), 1);
    s.due("from the last on", eight().reach(7), 8);
    s.due("no farther than one place", Sentences.of(1, 2, 3).reach(0), 1);
    s.due("over a range that has none", Sentences.of(1, 2, 1).reach(0), 3);
    s.due("by another value than the first", Sentences.of(1, 2, 2).reach(0), 3);
    s.due("all of 160", Sentences.alike(160, 4).reach(0), 160);
    s.promise(36, "NONE: others");
    s.refuses("reach", Sentences::eight, (x, l) -> x.reach(l), -1, 8, 9, -1, MIN, MAX);
    s.refuses("reach", Sentences::full, (x, l) -> x.reach(l), -1, 160, -1, MAX);
  }

  private void parted() {
    s.promise(37, "Into how few RANGES, one behind the other, a RANGE can be parted so that each has a MAJORITY");
    s.due("one place", eight().parted(7, 8), 1);
    s.due("a majority", eight().parted(0, 5), 1);
    s.due("two unlike ones", Sentences.of(1, 2).parted(0, 2), 2);
    s.due("160 unlike ones", Sentences.full().parted(0, 160), 160);
    s.due("160 like ones", Sentences.alike(160, 4).parted(0, 160), 1);
    // The farthest first one, 3 3 2, would leave 1 and 2 alone; 3 3 and 2 1 2 are fewer.
    s.due("not the farthest first", Sentences.of(3, 3, 2, 1, 2).parted(0, 5), 2);
    s.promise(37, "NONE: others");
    s.refusesWrongRanges("parted", (x, l, r) -> x.parted(l, r), -1);
  }

  private void cut() {
    s.promise(38, "The first m by which l, m and m, r have MAJORITIES, unlike ones");
    s.due("two places", Sentences.of(1, 2).cut(0, 2), 1);
    s.due("the first of two such m", Sentences.of(1, 1, 2, 2).cut(0, 4), 1);
    s.due("the last m that there is", Sentences.of(1, 1, 1, 2).cut(0, 4), 3);
    s.due("the last m of 160", lastUnlike().cut(0, 160), 159);
    s.promise(38, "NONE: there is none, others");
    s.due("one place", eight().cut(3, 4), -1);
    s.due("two like ones", eight().cut(0, 2), -1);
    s.due("like majorities", Sentences.alike(160, 4).cut(0, 160), -1);
    s.due("no majorities", Sentences.of(1, 2, 3, 4).cut(0, 4), -1);
    s.refusesWrongRanges("cut", (x, l, r) -> x.cut(l, r), -1);
  }

  private static MajorityIndex lastUnlike() {
    MajorityIndex x = Sentences.alike(160, 4);
    x.set(159, 3);
    return x;
  }

  private void majorities() {
    s.promise(39, "In how many RANGES (of all) there is a MAJORITY");
    s.due("of none", empty().majorities(), 0);
    s.due("of one", Sentences.of(4).majorities(), 1);
    s.due("of two unlike ones", Sentences.of(1, 2).majorities(), 2);
    s.due("of 160 like ones", Sentences.alike(160, 4).majorities(), 12880);
    s.due("of 160 unlike ones", Sentences.full().majorities(), 160);
  }

  private void windows() {
    s.promise(40, "what 0: in how many some VALUE is HEAVY");
    s.due("w 1", eight().windows(1, 1, 2, 0), 8);
    s.due("w N", eight().windows(8, 1, 3, 0), 1);
    s.due("none", eight().windows(8, 1, 2, 0), 0);
    s.due("w N of 160", Sentences.alike(160, 4).windows(160, 998, 999, 0), 1);
    s.due("w 1 of 160", Sentences.full().windows(1, 998, 999, 0), 160);
    s.promise(40, "1: the VALUE that is HEAVY in most (of like ones the least; NO_VALUE: none)");
    s.due("of like ones the least", Sentences.of(32767, -32768).windows(1, 1, 2, 1), -32768);
    s.due("most, not the least", Sentences.of(32767, 32767, -32768).windows(1, 1, 2, 1), 32767);
    s.due("none", eight().windows(8, 1, 2, 1), NO_VALUE);
    s.promise(40, "2: in how many that is");
    s.due("in the most", Sentences.of(32767, 32767, -32768).windows(1, 1, 2, 2), 2);
    s.due("in none", eight().windows(8, 1, 2, 2), 0);
    s.promise(40, "NONE (1: NO_VALUE): others (w 1 to N)");
    int[] wrong = {0, 9, 160, -1, MIN, MAX};
    s.refuses("windows, 0, of w", Sentences::eight, (x, w) -> x.windows(w, 1, 2, 0), -1, wrong);
    s.refuses("windows, 1, of w", Sentences::eight, (x, w) -> x.windows(w, 1, 2, 1), NO_VALUE, wrong);
    s.refuses("windows, 2, of w", Sentences::eight, (x, w) -> x.windows(w, 1, 2, 2), -1, wrong);
    s.refuses("windows with what", Sentences::eight, (x, what) -> x.windows(2, 1, 2, what), -1, 3, 4, -1, MIN, MAX);
    s.refusesWrongShares("windows, 1,", (x, p, q) -> x.windows(8, p, q, 1), NO_VALUE);
  }

  private void needs() {
    s.promise(41, "so that a VALUE is HEAVY (0: it is)");
    s.due("it is", eight().needs(9, 2, 5, 1, 2), 0);
    s.due("it nearly is", eight().needs(5, 0, 8, 1, 2), 1);
    s.due("all must be others", eight().needs(7, 0, 8, 998, 999), 8);
    s.due("all of 160", Sentences.full().needs(7000, 0, 160, 998, 999), 160);
    s.due("one of 160", Sentences.full().needs(7000, 0, 160, 1, 999), 1);
    s.due("one of one", Sentences.of(4).needs(5, 0, 1, 998, 999), 1);
    s.promise(41, "NONE: others");
    s.refusesWrongRanges("needs", (x, l, r) -> x.needs(9, l, r, 1, 1), -1);
    s.refusesWrongShares("needs", (x, p, q) -> x.needs(9, 0, 1, p, q), -1);
    s.refusesWrongValues("needs", (x, value) -> x.needs(value, 0, 8, 1, 1), -1);
    s.promise(41, "-2: it never can be");
    s.due("by all, though all are", eight().needs(9, 2, 5, 1, 1), -2);
    s.due("by 999, 999", eight().needs(9, 0, 8, 999, 999), -2);
    s.due("of one by all", Sentences.of(4).needs(4, 0, 1, 7, 7), -2);
  }

  private void spares() {
    s.promise(42, "so that it is not HEAVY any more (0: it is not)");
    s.due("it is not, half", eight().spares(5, 0, 8, 1, 2), 0);
    s.due("not there", eight().spares(7, 0, 8, 1, 999), 0);
    s.due("by all", eight().spares(9, 2, 5, 1, 1), 0);
    s.due("one is enough", eight().spares(9, 2, 5, 998, 999), 1);
    s.due("all must be others", Sentences.alike(160, 4).spares(4, 0, 160, 1, 999), 160);
    s.due("down to half", Sentences.alike(160, 4).spares(4, 0, 160, 1, 2), 80);
    s.promise(42, "NONE: others");
    s.refusesWrongRanges("spares", (x, l, r) -> x.spares(9, l, r, 1, 1), -1);
    s.refusesWrongShares("spares", (x, p, q) -> x.spares(9, 2, 5, p, q), -1);
    s.refusesWrongValues("spares", (x, value) -> x.spares(value, 0, 1, 1, 2), -1);
  }

  private void would() {
    s.promise(43, "MAJORITY of a RANGE, were a PLACE (of the ROW) a VALUE");
    s.leavesNoTrace("a place in the range", Sentences::eight, x -> x.would(3, 5, 0, 8), 5);
    s.leavesNoTrace("the place behind the range", Sentences::eight, x -> x.would(5, 1, 0, 5), 9);
    s.leavesNoTrace("the place ahead of the range", Sentences::eight, x -> x.would(4, 1, 5, 8), 5);
    s.leavesNoTrace("the last place of the range", Sentences::eight, x -> x.would(4, 1, 0, 5), NO_VALUE);
    s.leavesNoTrace("the first place of the range", Sentences::eight, x -> x.would(5, 5, 5, 6), 5);
    s.leavesNoTrace("the value that it has", Sentences::eight, x -> x.would(4, 9, 0, 5), 9);
    s.leavesNoTrace("of one", () -> Sentences.of(4), x -> x.would(0, 3, 0, 1), 3);
    s.promise(43, "NO_VALUE: none, others");
    s.leavesNoTrace("none", Sentences::eight, x -> x.would(0, 9, 0, 8), NO_VALUE);
    s.refuses("would at", Sentences::eight, (x, i) -> x.would(i, 9, 0, 5), NO_VALUE, -1, 8, 9, MIN, MAX);
    s.refusesWrongValues("would", (x, value) -> x.would(7, value, 0, 1), NO_VALUE);
    s.refusesWrongRanges("would", (x, l, r) -> x.would(0, 9, l, r), NO_VALUE);
  }

  private void swings() {
    s.promise(44, "The PLACE (the first)");
    s.leavesNoTrace("of like ones the first", () -> Sentences.alike(8, 4), x -> x.swings(3, 8, 4, 0), 3);
    s.leavesNoTrace("the best is not the first", Sentences::eight, x -> x.swings(0, 8, 5, 0), 5);
    s.leavesNoTrace("one place", Sentences::eight, x -> x.swings(7, 8, 5, 0), 7);
    s.promise(44, "would make the SUMMARY of the root have the most VOTES' numbers together, what 0; that many: 1");
    s.leavesNoTrace("that many", Sentences::eight, x -> x.swings(0, 8, 5, 1), 8);
    s.leavesNoTrace("none", () -> Sentences.by(1, 1, 1), x -> x.swings(0, 2, 7, 1), 0);
    s.leavesNoTrace("the place of none", () -> Sentences.by(1, 1, 1), x -> x.swings(0, 2, 7, 0), 0);
    s.leavesNoTrace("all of 160", () -> Sentences.alike(160, 4), x -> x.swings(120, 160, 5, 1), 160);
    s.promise(44, "of a RANGE (of 40 PLACES at most)");
    s.leavesNoTrace("40 places", () -> Sentences.alike(41, 4), x -> x.swings(1, 41, 5, 0), 1);
    s.leavesNoTrace("41 places", () -> Sentences.alike(41, 4), x -> x.swings(0, 41, 5, 0), -1);
    s.leavesNoTrace("160 places", Sentences::full, x -> x.swings(0, 160, 5, 1), -1);
    s.promise(44, "NONE: others");
    s.refuses("swings with what", Sentences::eight, (x, what) -> x.swings(0, 8, 5, what), -1, 2, 3, -1, MIN, MAX);
    s.refusesWrongRanges("swings", (x, l, r) -> x.swings(l, r, 5, 1), -1);
    s.refusesWrongValues("swings", (x, value) -> x.swings(0, 8, value, 1), -1);
  }

  private void told() {
    s.promise(45, "What 0: N, 1: K, 2: NODES, 3: NODES that have a MAJORITY");
    int[] ofNone = {0, 2, 0, 0, 0, 0, 0};
    int[] ofOne = {1, 2, 1, 1, 1, 0, 0};
    int[] ofFull = {160, 2, 319, 319, 9, 0, 0};
    for (int what = 0; what <= 6; what++) {
      s.due("of none, what " + what, empty().told(what), ofNone[what]);
      s.due("of one, what " + what, Sentences.of(4).told(what), ofOne[what]);
      s.due("of 160 like ones, what " + what, Sentences.alike(160, 4).told(what), ofFull[what]);
    }
    s.due("majorities of nodes of 160 unlike ones", Sentences.full().told(3), 160);
    s.promise(45, "4: how deep the TREE is (0: none, 1: one NODE)");
    int[][] deep = {{0, 0}, {1, 1}, {2, 2}, {3, 3}, {4, 3}, {5, 4}, {8, 4}, {9, 5}, {16, 5}, {17, 6}, {128, 8}, {129, 9}};
    for (int[] a : deep) {
      s.due("of " + a[0], Sentences.unlike(a[0]).told(4), a[1]);
    }
    s.promise(45, "5: LOSS of the root (0 without), 6: all LOSSES of NODES together");
    MajorityIndex x = eight();
    s.due("the root's", x.told(5), 1);
    s.due("all", x.told(6), 2);
    x.end(0);
    s.due("without a root", x.told(5), 0);
    s.due("without nodes", x.told(6), 0);
    s.promise(45, "NONE for another what");
    s.refuses("told", Sentences::eight, (y, what) -> y.told(what), -1, 7, 8, -1, -2, MIN, MAX);
    s.refuses("told", MajorityIndex::new, (y, what) -> y.told(what), -1, 7, -1, MIN, MAX);
  }
}
