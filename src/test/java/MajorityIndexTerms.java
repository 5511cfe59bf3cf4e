import java.io.IOException;
import java.util.ArrayList;
import java.util.List;

/** The boundary cases that the document's terms name, each sentence with a test of its own. */
public final class MajorityIndexTerms {
  private static final int MIN = Sentences.MIN;
  private static final int MAX = Sentences.MAX;
  private static final int NO_VALUE = Sentences.NO_VALUE;
  private static final long THROWS = Sentences.THROWS;
  private static final int[] TWENTY = {1, 2, 1, 1, 3, 2, 2, 4, 1, 3, 3, 3, 1, 2, 4, 4, 1, 1, 2, 5};

  private final Sentences s = new Sentences();

  private MajorityIndexTerms() throws IOException {
  }

  public static void main(String[] args) throws IOException {
    MajorityIndexTerms t = new MajorityIndexTerms();
    t.calls();
    t.row();
    t.valuesAccepted();
    t.valuesRefused();
    t.slots();
    t.rangesAccepted();
    t.rangesRefusedByFirstCalls();
    t.rangesRefusedByLaterCalls();
    t.summaries();
    t.cancelling();
    t.numbersAndLoss();
    t.tree();
    t.laidAnew();
    t.parts();
    t.sharesAccepted();
    t.sharesRefused();
    t.heavy();
    t.enough();
    t.heavyAreAmongVotes();
    t.majorityAndMargin();
    t.twoRanges();
    t.constants();
    t.s.end();
  }

  private void calls() {
    s.sentence("What it is", "An object is used for at most 512 calls after it has been made");
    MajorityIndex x = Sentences.full();
    for (int call = 41; call < 511; call++) {
      x.set(call % 160, call % 7);
    }
    s.due("the 511th, told(0)", x.told(0), 160);
    s.due("the 512th, at(30)", x.at(30), 510 % 7);
  }

  private void row() {
    s.sentence("Terms", "The ROW has N VALUES (0 to 160; none at first)");
    s.due("told(0)", new MajorityIndex().told(0), 0);
    MajorityIndex fed = new MajorityIndex();
    MajorityIndex put = new MajorityIndex();
    for (int i = 1; i <= 40; i++) {
      s.due("feed", fed.feed(i, i), 4 * i);
    }
    for (int i = 1; i <= 160; i++) {
      s.due("insert", put.insert(i - 1, i), i);
    }
    s.due("feed", fed.feed(1, 1), -1);
    s.due("insert", put.insert(160, 1), -1);
    s.due("told(0)", fed.told(0), 160);
    s.due("told(0)", put.told(0), 160);
    s.sentence("Terms", "at PLACES 0 to N - 1");
    for (int length : new int[] {1, 2, 8, 159, 160}) {
      MajorityIndex x = Sentences.unlike(length);
      s.due("at(0)", x.at(0), -3);
      s.due("at(N - 1)", x.at(length - 1), length - 4);
      s.dueThrow("at(-1)", x, y -> y.at(-1));
      s.dueThrow("at(N)", x, y -> y.at(length));
    }
  }

  private void valuesAccepted() {
    s.sentence("Terms", "each -32768 to 32767");
    for (int edge : new int[] {-32768, 32767}) {
      MajorityIndex x = Sentences.eight();
      s.due("set", x.set(7, edge), 4);
      s.due("at(7)", x.at(7), edge);
      s.due("fill", x.fill(6, 8, edge), 4);
      s.due("at(6)", x.at(6), edge);
      s.due("insert", x.insert(0, edge), 9);
      s.due("at(0)", x.at(0), edge);
      s.due("count", x.count(edge, 0, 9), 3);
      s.due("place", x.place(edge, 2), 8);
      s.due("lost", x.lost(edge, 0, 1), 0);
      s.due("margin", x.margin(edge, 0, 9), -3);
      s.due("longest", x.longest(edge, 1, 2, 0), 6);
      s.due("needs", x.needs(edge, 0, 9, 1, 2), 2);
      s.due("spares", x.spares(edge, 7, 9, 1, 2), 1);
      s.due("would", x.would(1, edge, 0, 2), edge);
      s.due("swings", x.swings(0, 1, edge, 0), 0);
      s.due("majority", x.majority(7, 9), edge);
      s.due("surely", x.surely(7, 9), edge);
      s.due("remove", x.remove(0), edge);
    }
  }

  private void valuesRefused() {
    s.sentence("Terms", "each -32768 to 32767");
    s.refusesWrongValues("set", (x, v) -> x.set(0, v), -1);
    s.refusesWrongValues("fill", (x, v) -> x.fill(0, 8, v), -1);
    s.refusesWrongValues("insert", (x, v) -> x.insert(0, v), -1);
    s.refusesWrongValues("count", (x, v) -> x.count(v, 0, 8), -1);
    s.refusesWrongValues("place", (x, v) -> x.place(v, 0), -1);
    s.refusesWrongValues("lost", (x, v) -> x.lost(v, 0, 8), -1);
    s.refusesWrongValues("margin", (x, v) -> x.margin(v, 0, 8), NO_VALUE);
    s.refusesWrongValues("longest", (x, v) -> x.longest(v, 1, 999, 0), -1);
    s.refusesWrongValues("needs", (x, v) -> x.needs(v, 0, 8, 1, 2), -1);
    s.refusesWrongValues("spares", (x, v) -> x.spares(v, 0, 8, 1, 2), -1);
    s.refusesWrongValues("would", (x, v) -> x.would(7, v, 0, 5), NO_VALUE);
    s.refusesWrongValues("swings", (x, v) -> x.swings(0, 8, v, 0), -1);
  }

  private void slots() {
    s.sentence("Terms", "SLOTS K, 1 to 6 (2 at first)");
    MajorityIndex x = new MajorityIndex();
    s.due("told(1)", x.told(1), 2);
    for (int k = 1; k <= 6; k++) {
      x.slots(k);
      s.due("told(1)", x.told(1), k);
    }
    s.refuses("slots", Sentences::eight, (y, k) -> y.slots(k), -1, 0, 7, -1, MIN, MAX, 258, 65538);
  }

  private void rangesAccepted() {
    s.sentence("Terms", "0 at least is l, l below r, r N at most");
    int[][] right = {{0, 1}, {7, 8}, {0, 8}};
    for (int[] a : right) {
      int l = a[0];
      int r = a[1];
      MajorityIndex x = Sentences.alike(8, 5);
      s.due("fill", x.fill(l, r, 5), 0);
      s.due("turn", x.turn(l, r), 0);
      s.due("count", x.count(5, l, r), r - l);
      s.due("node", x.node(l, r), 1);
      s.due("vote", x.vote(l, r, 0, 1), r - l);
      s.due("loss", x.loss(l, r), 0);
      s.due("cancelled", x.cancelled(l, r), 0);
      s.due("parts", x.parts(l, r), 1);
      s.due("part", x.part(l, r, 0, 1), r);
      s.due("summary", x.summary(l, r, 1), r - l);
      s.due("candidate", x.candidate(l, r, 0, 2), r - l);
      s.due("lost", x.lost(5, l, r), 0);
      s.due("surely", x.surely(l, r), 5);
      s.due("heavy", x.heavy(l, r, 1, 2), 1);
      s.due("heavyAt", x.heavyAt(l, r, 1, 2, 0, 1), r - l);
      s.due("failed", x.failed(l, r, 1, 2), 0);
      s.due("least", x.least(l, r, 1, 2), 1);
      s.due("majority", x.majority(l, r), 5);
      s.due("margin", x.margin(5, l, r), r - l);
      s.due("parted", x.parted(l, r), 1);
      s.due("needs", x.needs(5, l, r, 1, 2), 0);
      s.due("spares", x.spares(5, l, r, 998, 999), 1);
      s.due("would", x.would(l, 5, l, r), 5);
      s.due("swings", x.swings(l, r, 5, 0), l);
    }
    s.due("cut", Sentences.of(1, 2).cut(0, 2), 1);
    s.due("both", Sentences.of(1, 1).both(0, 1, 1, 2, 1, 2), 1);
    s.due("bothAt", Sentences.of(1, 1).bothAt(1, 2, 0, 1, 1, 2, 0), 1);
  }

  private void rangesRefusedByFirstCalls() {
    s.sentence("Terms", "A RANGE l, r: PLACES l to r - 1; 0 at least is l, l below r, r N at most");
    s.refusesWrongRanges("fill", (x, l, r) -> x.fill(l, r, 1), -1);
    s.refusesWrongRanges("turn", (x, l, r) -> x.turn(l, r), -1);
    s.refusesWrongRanges("count", (x, l, r) -> x.count(5, l, r), -1);
    s.refusesWrongRanges("node", (x, l, r) -> x.node(l, r), -1);
    s.refusesWrongRanges("vote", (x, l, r) -> x.vote(l, r, 0, 0), THROWS);
    s.refusesWrongRanges("loss", (x, l, r) -> x.loss(l, r), -1);
    s.refusesWrongRanges("cancelled", (x, l, r) -> x.cancelled(l, r), -1);
    s.refusesWrongRanges("parts", (x, l, r) -> x.parts(l, r), -1);
    s.refusesWrongRanges("part", (x, l, r) -> x.part(l, r, 0, 0), -1);
    s.refusesWrongRanges("summary", (x, l, r) -> x.summary(l, r, 0), -1);
    s.refusesWrongRanges("candidate", (x, l, r) -> x.candidate(l, r, 0, 0), THROWS);
    s.refusesWrongRanges("lost", (x, l, r) -> x.lost(5, l, r), -1);
    s.refusesWrongRanges("surely", (x, l, r) -> x.surely(l, r), NO_VALUE);
  }

  private void rangesRefusedByLaterCalls() {
    s.sentence("Terms", "A RANGE l, r: PLACES l to r - 1; 0 at least is l, l below r, r N at most");
    s.refusesWrongRanges("heavy", (x, l, r) -> x.heavy(l, r, 1, 2), -1);
    s.refusesWrongRanges("heavyAt", (x, l, r) -> x.heavyAt(l, r, 1, 3, 0, 0), THROWS);
    s.refusesWrongRanges("failed", (x, l, r) -> x.failed(l, r, 1, 2), -1);
    s.refusesWrongRanges("least", (x, l, r) -> x.least(l, r, 1, 2), -1);
    s.refusesWrongRanges("majority", (x, l, r) -> x.majority(l, r), NO_VALUE);
    s.refusesWrongRanges("margin", (x, l, r) -> x.margin(5, l, r), NO_VALUE);
    s.refusesWrongRanges("both, the first", (x, l, r) -> x.both(l, r, 1, 2, 1, 2), -1);
    s.refusesWrongRanges("both, the second", (x, l, r) -> x.both(1, 2, l, r, 1, 2), -1);
    s.refusesWrongRanges("bothAt, the first", (x, l, r) -> x.bothAt(l, r, 1, 2, 1, 3, 0), NO_VALUE);
    s.refusesWrongRanges("bothAt, the second", (x, l, r) -> x.bothAt(1, 2, l, r, 1, 3, 0), NO_VALUE);
    s.refusesWrongRanges("parted", (x, l, r) -> x.parted(l, r), -1);
    s.refusesWrongRanges("cut", (x, l, r) -> x.cut(l, r), -1);
    s.refusesWrongRanges("needs", (x, l, r) -> x.needs(5, l, r, 1, 2), -1);
    s.refusesWrongRanges("spares", (x, l, r) -> x.spares(5, l, r, 1, 3), -1);
    s.refusesWrongRanges("would", (x, l, r) -> x.would(0, 5, l, r), NO_VALUE);
    s.refusesWrongRanges("swings", (x, l, r) -> x.swings(l, r, 5, 0), -1);
  }

  private void summaries() {
    s.sentence("Terms", "SUMMARY: at most K VOTES, each of a VALUE and a number above 0");
    for (int k = 1; k <= 6; k++) {
      MajorityIndex x = Sentences.unlike(k);
      x.slots(k);
      s.due("node of K unlike ones", x.node(0, k), k);
      s.due("loss of K unlike ones", x.loss(0, k), 0);
      s.due("cancelled of K unlike ones", x.cancelled(0, k), 0);
      x.insert(k, 100);
      s.due("node of one more", x.node(0, k + 1), 0);
      s.due("loss of one more", x.loss(0, k + 1), 1);
      s.due("cancelled of one more", x.cancelled(0, k + 1), 1);
    }
    s.sentence("Terms", "told by numbers, the greatest first, of like ones by VALUES, the least first");
    MajorityIndex like = Sentences.of(32767, -32768);
    s.due("vote(0, 2, 0, 0)", like.vote(0, 2, 0, 0), -32768);
    s.due("vote(0, 2, 1, 0)", like.vote(0, 2, 1, 0), 32767);
    MajorityIndex more = Sentences.of(-32768, 32767, 32767);
    s.due("vote(0, 3, 0, 0)", more.vote(0, 3, 0, 0), 32767);
    s.due("vote(0, 3, 1, 0)", more.vote(0, 3, 1, 0), -32768);
    s.sentence("Terms", "Of one PLACE: its VALUE, 1; LOSS 0");
    for (int k = 1; k <= 6; k += 5) {
      MajorityIndex one = Sentences.by(k, -32768);
      s.due("node(0, 1)", one.node(0, 1), 1);
      s.due("vote(0, 1, 0, 0)", one.vote(0, 1, 0, 0), -32768);
      s.due("vote(0, 1, 0, 1)", one.vote(0, 1, 0, 1), 1);
      s.due("loss(0, 1)", one.loss(0, 1), 0);
    }
  }

  private void cancelling() {
    s.sentence("Terms", "if these are more than K: of the one that is told behind the K-th its number c");
    // 1:2 2:2 and 3:3 4:1 are told 3:3 1:2 2:2 4:1: the third has 2.
    MajorityIndex x = Sentences.of(1, 1, 2, 2, 3, 3, 3, 4);
    s.due("cancelled(0, 8)", x.cancelled(0, 8), 2);
    s.due("loss(0, 8)", x.loss(0, 8), 2);
    s.sentence("Terms", "all are less by c, those that are not above 0 any more are none");
    s.due("node(0, 8)", x.node(0, 8), 1);
    s.due("vote(0, 8, 0, 0)", x.vote(0, 8, 0, 0), 3);
    s.due("vote(0, 8, 0, 1)", x.vote(0, 8, 0, 1), 1);
    s.dueThrow("vote(0, 8, 1, 0)", x, y -> y.vote(0, 8, 1, 0));
    s.sentence("Terms", "of each VALUE that one of them has both numbers together");
    // Of (0,12) 1:7 and five of 1, of (12,24) six of 2: twelve votes come together, the seventh has 2.
    MajorityIndex twelve = Sentences.by(6, 1, 1, 1, 1, 1, 1, 1, 2, 3, 4, 5, 6, 7, 7, 8, 8, 9, 9, 10, 10, 11, 11, 12, 12);
    s.due("node(0, 12)", twelve.node(0, 12), 6);
    s.due("node(12, 24)", twelve.node(12, 24), 6);
    s.due("cancelled(0, 24)", twelve.cancelled(0, 24), 2);
    s.due("node(0, 24)", twelve.node(0, 24), 1);
    s.due("vote(0, 24, 0, 1)", twelve.vote(0, 24, 0, 1), 5);
    s.sentence("Terms", "LOSSES together");
    MajorityIndex none = Sentences.by(1, 1, 2, 3, 4);
    s.due("loss(0, 2)", none.loss(0, 2), 1);
    s.due("loss(0, 4)", none.loss(0, 4), 2);
    s.due("cancelled(0, 4)", none.cancelled(0, 4), 0);
    s.due("node(0, 4)", none.node(0, 4), 0);
  }

  private void numbersAndLoss() {
    s.sentence("Terms", "(So of each VALUE its number is at most how often it is there, and with LOSS not less");
    for (int k = 1; k <= 6; k++) {
      for (int l = 0; l < TWENTY.length; l++) {
        MajorityIndex x = Sentences.by(k, TWENTY);
        for (int r = l + 1; r <= TWENTY.length; r++) {
          int loss = x.summary(l, r, 2);
          for (int value = 1; value <= 6; value++) {
            int lost = x.lost(value, l, r);
            s.due("lost is 0 to LOSS", lost >= 0 && lost <= loss ? 1 : 0, 1);
          }
        }
      }
    }
  }

  private void nodesAre(int length, int[]... nodes) {
    for (int l = 0; l < length; l++) {
      for (int r = l + 1; r <= length; r++) {
        boolean is = r - l == 1;
        for (int[] node : nodes) {
          is = is || node[0] == l && node[1] == r;
        }
        s.due("node(" + l + ", " + r + ") of " + length, Sentences.alike(length, 7).node(l, r), is ? 1 : -2);
      }
    }
    s.due("told(2)", Sentences.alike(length, 7).told(2), length + nodes.length);
  }

  private void tree() {
    s.sentence("Terms", "The TREE: NODES, each of a RANGE l, r: the root of all");
    s.due("told(2) of none", new MajorityIndex().told(2), 0);
    nodesAre(1);
    nodesAre(2, new int[] {0, 2});
    s.sentence("Terms", "one of two PLACES and more has two below it, from l to m and from m to r, m the half of l + r,");
    nodesAre(3, new int[] {0, 3}, new int[] {1, 3});
    nodesAre(5, new int[] {0, 5}, new int[] {0, 2}, new int[] {2, 5}, new int[] {3, 5});
    nodesAre(6, new int[] {0, 6}, new int[] {0, 3}, new int[] {1, 3}, new int[] {3, 6}, new int[] {4, 6});
    nodesAre(7, new int[] {0, 7}, new int[] {0, 3}, new int[] {1, 3}, new int[] {3, 7}, new int[] {3, 5},
        new int[] {5, 7});
    s.due("told(2) of 160", Sentences.full().told(2), 319);
  }

  private void sameAsEight(String way, MajorityIndex x) {
    boolean same = s.picture(x).equals(s.picture(Sentences.eight()));
    s.due("the same picture by " + way, same ? 1 : 0, 1);
  }

  private void laidAnew() {
    s.sentence("Terms", "It is laid anew for the ROW and K that are there; how it came to them does not matter");
    MajorityIndex put = new MajorityIndex();
    int[] backwards = {5, 5, -3, 9, 9, 9, 5, 5};
    for (int value : backwards) {
      put.insert(0, value);
    }
    sameAsEight("insert", put);
    MajorityIndex cut = Sentences.of(5, 5, 9, 9, 9, -3, 5, 5, 1, 1);
    cut.told(6);
    cut.end(8);
    sameAsEight("end", cut);
    MajorityIndex taken = Sentences.of(8, 5, 5, 9, 9, 9, -3, 5, 5);
    taken.told(6);
    taken.remove(0);
    sameAsEight("remove", taken);
    MajorityIndex turned = Sentences.of(5, 5, -3, 9, 9, 9, 5, 5);
    turned.told(6);
    turned.turn(0, 8);
    sameAsEight("turn", turned);
    MajorityIndex swapped = Sentences.of(5, 5, -3, 9, 9, 9, 5, 5);
    swapped.swap(5, 2);
    sameAsEight("swap", swapped);
    MajorityIndex filled = Sentences.alike(8, 5);
    filled.fill(2, 6, 9);
    filled.set(5, -3);
    sameAsEight("fill and set", filled);
    MajorityIndex slotted = Sentences.eight();
    slotted.slots(6);
    slotted.told(6);
    slotted.slots(2);
    sameAsEight("slots", slotted);
    MajorityIndex emptied = Sentences.full();
    emptied.told(6);
    emptied.end(0);
    emptied.feed(5 << 16 | 5, 9 << 16 | 9);
    emptied.feed(9 << 16 | 65533, 5 << 16 | 5);
    sameAsEight("an end at 0", emptied);
  }

  private void partsAre(MajorityIndex x, int l, int r, int... bounds) {
    s.due("parts(" + l + ", " + r + ")", x.parts(l, r), bounds.length - 1);
    for (int i = 0; i + 1 < bounds.length; i++) {
      s.due("l of part " + i + " of " + l + ", " + r, x.part(l, r, i, 0), bounds[i]);
      s.due("r of part " + i + " of " + l + ", " + r, x.part(l, r, i, 1), bounds[i + 1]);
    }
  }

  private void parts() {
    s.sentence("Terms", "PARTS of a RANGE: the NODES of which it consists, as few as can be, from the left to the right");
    MajorityIndex x = Sentences.eight();
    partsAre(x, 0, 8, 0, 8);
    partsAre(x, 3, 4, 3, 4);
    partsAre(x, 1, 8, 1, 2, 4, 8);
    partsAre(x, 0, 7, 0, 4, 6, 7);
    partsAre(x, 1, 7, 1, 2, 4, 6, 7);
    partsAre(x, 3, 5, 3, 4, 5);
    partsAre(Sentences.full(), 1, 159, 1, 2, 5, 10, 20, 40, 80, 120, 140, 150, 155, 157, 158, 159);
    s.sentence("Terms", "of its first PART and the second, TOGETHER, of that and the third, and so on");
    // 1:1 and 2:2, with these 3:3 4:1: 3:2 2:1, loss 1; from the right on it would be 3:1, loss 2.
    MajorityIndex three = Sentences.of(1, 1, 2, 2, 3, 3, 3, 4);
    s.due("summary(1, 8, 0)", three.summary(1, 8, 0), 2);
    s.due("summary(1, 8, 1)", three.summary(1, 8, 1), 3);
    s.due("summary(1, 8, 2)", three.summary(1, 8, 2), 1);
    s.sentence("Terms", "(So it may be another one than that of a like row of VALUES elsewhere.)");
    // 1 2, 3 leave 3; 1, 2 3 leave 1.
    MajorityIndex y = Sentences.by(1, 1, 2, 3, 0, 0, 1, 2, 3);
    s.due("candidate(0, 3, 0, 0)", y.candidate(0, 3, 0, 0), 3);
    s.due("candidate(5, 8, 0, 0)", y.candidate(5, 8, 0, 0), 1);
  }

  private void sharesAccepted() {
    s.sentence("Terms", "A SHARE p, q: p 1 to 999, q p to 999");
    MajorityIndex x = Sentences.eight();
    s.due("heavy by 1, 1", x.heavy(2, 5, 1, 1), 0);
    s.due("heavy by 999, 999", x.heavy(2, 5, 999, 999), 0);
    s.due("heavy by 998, 999", x.heavy(2, 5, 998, 999), 1);
    s.due("heavy by 1, 999", x.heavy(2, 5, 1, 999), -2);
    s.due("heavyAt by 998, 999", x.heavyAt(2, 5, 998, 999, 0, 0), 9);
    s.due("failed by 999, 999", x.failed(2, 5, 999, 999), 1);
    s.due("least by 1, 999", x.least(0, 8, 1, 999), 3);
    s.due("least by 999, 999", x.least(0, 8, 999, 999), 1);
    s.due("both by 998, 999", x.both(2, 3, 3, 5, 998, 999), 1);
    s.due("bothAt by 998, 999", x.bothAt(2, 3, 3, 5, 998, 999, 0), 9);
    s.due("longest by 1, 999", x.longest(-3, 1, 999, 1), 8);
    s.due("longest by 998, 999", x.longest(9, 998, 999, 1), 5);
    s.due("windows by 1, 999", x.windows(8, 1, 999, 0), 1);
    s.due("windows by 999, 999", x.windows(8, 999, 999, 0), 0);
    s.due("needs by 1, 999", x.needs(7, 0, 8, 1, 999), 1);
    s.due("needs by 998, 999", x.needs(7, 0, 8, 998, 999), 8);
    s.due("spares by 1, 999", x.spares(5, 0, 8, 1, 999), 4);
    s.due("spares by 999, 999", x.spares(9, 2, 5, 999, 999), 0);
  }

  private void sharesRefused() {
    s.sentence("Terms", "A SHARE p, q: p 1 to 999, q p to 999");
    s.refusesWrongShares("heavy", (x, p, q) -> x.heavy(0, 8, p, q), -1);
    s.refusesWrongShares("heavyAt", (x, p, q) -> x.heavyAt(2, 5, p, q, 0, 0), THROWS);
    s.refusesWrongShares("failed", (x, p, q) -> x.failed(0, 8, p, q), -1);
    s.refusesWrongShares("least", (x, p, q) -> x.least(0, 8, p, q), -1);
    s.refusesWrongShares("both", (x, p, q) -> x.both(0, 4, 4, 8, p, q), -1);
    s.refusesWrongShares("bothAt", (x, p, q) -> x.bothAt(2, 3, 3, 5, p, q, 0), NO_VALUE);
    s.refusesWrongShares("longest", (x, p, q) -> x.longest(9, p, q, 0), -1);
    s.refusesWrongShares("windows, 0", (x, p, q) -> x.windows(1, p, q, 0), -1);
    s.refusesWrongShares("windows, 1", (x, p, q) -> x.windows(1, p, q, 1), NO_VALUE);
    s.refusesWrongShares("windows, 2", (x, p, q) -> x.windows(1, p, q, 2), -1);
    s.refusesWrongShares("needs", (x, p, q) -> x.needs(9, 0, 8, p, q), -1);
    s.refusesWrongShares("spares", (x, p, q) -> x.spares(9, 0, 8, p, q), -1);
  }

  private void heavy() {
    s.sentence("Terms", "if how often it is there, times q, is more than p times how many PLACES that has");
    MajorityIndex x = Sentences.eight();
    s.due("4 of 8 by 1, 2", x.heavy(0, 8, 1, 2), 0);
    s.due("4 of 8 by 499, 999", x.heavy(0, 8, 499, 999), 1);
    s.due("3 of 8 by 3, 8", x.heavy(0, 8, 3, 8), 1);
    s.due("3 of 8 by 374, 999", x.heavy(0, 8, 374, 999), 2);
    s.due("3 of 8 by 375, 999", x.heavy(0, 8, 375, 999), 1);
    s.due("longest, 4 of 8 by 1, 2", x.longest(5, 1, 2, 1), 3);
    s.due("windows, 4 of 8 by 1, 2", x.windows(8, 1, 2, 0), 0);
    s.due("windows, 4 of 8 by 499, 999", x.windows(8, 499, 999, 0), 1);
    s.due("all of 160 by 998, 999", Sentences.alike(160, 4).heavy(0, 160, 998, 999), 1);
    s.due("all of 160 by 1, 1", Sentences.alike(160, 4).heavy(0, 160, 1, 1), 0);
    s.due("all of 160 by 999, 999", Sentences.alike(160, 4).heavy(0, 160, 999, 999), 0);
  }

  private void enough() {
    s.sentence("Terms", "K is ENOUGH for a SHARE, if p * (K + 1) is q at least");
    for (int k = 1; k <= 6; k++) {
      MajorityIndex x = Sentences.by(k, 1, 1, 1, 1);
      int p = 999 / (k + 1);
      s.due("heavy by 1, K + 1", x.heavy(0, 4, 1, k + 1), 1);
      s.due("heavy by 1, K + 2", x.heavy(0, 4, 1, k + 2), -2);
      s.due("heavy by p, p (K + 1)", x.heavy(0, 4, p, p * (k + 1)), 1);
      s.due("heavy by p - 1, p (K + 1)", x.heavy(0, 4, p - 1, p * (k + 1)), -2);
      s.due("failed by 1, K + 2", x.failed(0, 4, 1, k + 2), -2);
      s.due("both by 1, K + 1", x.both(0, 2, 2, 4, 1, k + 1), 1);
      s.due("both by 1, K + 2", x.both(0, 2, 2, 4, 1, k + 2), -2);
      s.due("bothAt by 1, K + 1", x.bothAt(0, 2, 2, 4, 1, k + 1, 0), 1);
      s.due("bothAt by 1, K + 2", x.bothAt(0, 2, 2, 4, 1, k + 2, 0), NO_VALUE);
      int more = k + 2;
      s.due("heavyAt by 1, K + 1", x.heavyAt(0, 4, 1, k + 1, 0, 0), 1);
      s.dueThrow("heavyAt by 1, K + 2", x, y -> y.heavyAt(0, 4, 1, more, 0, 0));
    }
  }

  private static int heavyOnes(int l, int r, int p, int q) {
    List<Integer> seen = new ArrayList<>();
    for (int i = l; i < r; i++) {
      int often = 0;
      for (int j = l; j < r; j++) {
        often += TWENTY[j] == TWENTY[i] ? 1 : 0;
      }
      if (often * q > p * (r - l) && !seen.contains(TWENTY[i])) {
        seen.add(TWENTY[i]);
      }
    }
    return seen.size();
  }

  private void heavyAreAmongVotes() {
    s.sentence("Terms", "all that are HEAVY are among the VOTES of the SUMMARY then, and no more than K");
    for (int k = 1; k <= 6; k++) {
      MajorityIndex x = Sentences.by(k, TWENTY);
      for (int l = 0; l < TWENTY.length; l++) {
        for (int r = l + 1; r <= TWENTY.length; r++) {
          int many = x.heavy(l, r, 1, k + 1);
          s.due("heavy(" + l + ", " + r + ")", many, heavyOnes(l, r, 1, k + 1));
          s.due("is no more than K", many <= k ? 1 : 0, 1);
        }
      }
    }
  }

  private void majorityAndMargin() {
    s.sentence("Terms", "MAJORITY: HEAVY by 1, 2");
    s.due("1 of 2", Sentences.of(1, 2).majority(0, 2), NO_VALUE);
    s.due("2 of 3", Sentences.of(1, 2, 1).majority(0, 3), 1);
    MajorityIndex half = Sentences.alike(160, 4);
    half.fill(0, 80, 3);
    s.due("80 of 160", half.majority(0, 160), NO_VALUE);
    half.set(79, 4);
    s.due("81 of 160", half.majority(0, 160), 4);
    s.sentence("Terms", "MARGIN of a VALUE in a RANGE: twice how often it is there less how many PLACES that has");
    s.due("of 81 of 160", half.margin(4, 0, 160), 2);
    s.due("of 79 of 160", half.margin(3, 0, 160), -2);
    s.due("of none of 160", half.margin(5, 0, 160), -160);
    s.due("of all of 160", Sentences.alike(160, 4).margin(4, 0, 160), 160);
    s.due("of one of one", half.margin(3, 0, 1), 1);
    s.due("of none of one", half.margin(4, 0, 1), -1);
  }

  private void twoRanges() {
    s.sentence("Terms", "Of two RANGES that have no PLACE together: TOGETHER");
    MajorityIndex x = Sentences.eight();
    s.due("both(0, 4, 4, 8, 1, 3)", x.both(0, 4, 4, 8, 1, 3), 2);
    s.due("both(4, 8, 0, 4, 1, 3)", x.both(4, 8, 0, 4, 1, 3), 2);
    s.due("both(0, 5, 4, 8, 1, 3)", x.both(0, 5, 4, 8, 1, 3), -3);
    s.due("both(4, 8, 0, 5, 1, 3)", x.both(4, 8, 0, 5, 1, 3), -3);
    s.due("both(0, 1, 7, 8, 1, 3)", x.both(0, 1, 7, 8, 1, 3), 1);
    s.sentence("Terms", "HEAVY: in both as in one");
    s.due("2 of 2 and 0 of 2", x.both(0, 2, 2, 4, 1, 2), 0);
    s.due("1 of 2 and 2 of 2", x.both(5, 7, 0, 2, 1, 2), 1);
    s.due("1 of 2 and 2 of 2", x.bothAt(5, 7, 0, 2, 1, 2, 0), 5);
  }

  private void constants() {
    s.sentence("Terms", "`NONE = -1`: None.");
    s.due("NONE", MajorityIndex.NONE, -1);
    s.sentence("Terms", "No VALUE has this number: there is none.");
    s.due("NO_VALUE", MajorityIndex.NO_VALUE, -40000);
    s.due("set", Sentences.eight().set(0, MajorityIndex.NO_VALUE), -1);
    s.due("insert", Sentences.eight().insert(0, MajorityIndex.NO_VALUE), -1);
    // -1 is a VALUE as others are.
    MajorityIndex x = Sentences.of(-1, -1, 4);
    s.due("at(0)", x.at(0), -1);
    s.due("majority(0, 3)", x.majority(0, 3), -1);
    s.due("count(-1, 0, 3)", x.count(-1, 0, 3), 2);
    s.due("remove(0)", x.remove(0), -1);
  }
}
