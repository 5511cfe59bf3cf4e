import java.util.Arrays;
import java.util.NoSuchElementException;

/** A row of values, a tree of cancelled votes over it, and what can be asked of both. */
public final class MajorityIndex {
    public static final int NONE = -1;
    public static final int NO_VALUE = -40000;

    private static final int NO_SUCH_NODE = -2;
    private static final int NOT_ENOUGH = -2;
    private static final int BY_NO_SLOTS = -2;
    private static final int NEVER = -2;
    private static final int SHARED_PLACE = -3;

    private static final int MOST_PLACES = 160;
    private static final int MOST_NODES = 2 * MOST_PLACES - 1;
    private static final int FIRST_SLOTS = 2;
    private static final int MOST_SLOTS = 6;
    private static final int LEAST_VALUE = -32768;
    private static final int GREATEST_VALUE = 32767;
    private static final int GREATEST_SHARE = 999;
    private static final int MOST_FOR_LEAST = 64;
    private static final int MOST_FOR_SWINGS = 40;

    private final Row row;
    private final Tree tree;
    private final Tally tally;
    private final Votes votes;
    private final Votes otherVotes;
    private final int[] wins;
    private final int[] fewest;
    private int slotsNow;
    private boolean treeIsOld;

    public MajorityIndex() {
        row = new Row();
        tree = new Tree(row);
        tally = new Tally();
        votes = new Votes();
        otherVotes = new Votes();
        wins = new int[MOST_PLACES];
        fewest = new int[MOST_PLACES + 1];
        slotsNow = FIRST_SLOTS;
        treeIsOld = true;
    }

    // ---- the row

    public int feed(int a, int b) {
        if (row.length + 4 > MOST_PLACES) {
            return NONE;
        }
        row.append(a >> 16);
        row.append((short) a);
        row.append(b >> 16);
        row.append((short) b);
        treeIsOld = true;
        return row.length;
    }

    public int end(int n) {
        if (n < 0 || n > row.length) {
            return NONE;
        }
        row.length = n;
        treeIsOld = true;
        return n;
    }

    public int slots(int k) {
        if (k < 1 || k > MOST_SLOTS) {
            return NONE;
        }
        int before = slotsNow;
        slotsNow = k;
        treeIsOld = true;
        return before;
    }

    public int set(int place, int value) {
        if (!row.hasPlace(place) || !isValue(value)) {
            return NONE;
        }
        return overwrite(laidTree(), place, place + 1, value);
    }

    public int fill(int l, int r, int value) {
        if (!row.hasRange(l, r) || !isValue(value)) {
            return NONE;
        }
        return overwrite(laidTree(), l, r, value);
    }

    public int turn(int l, int r) {
        if (!row.hasRange(l, r)) {
            return NONE;
        }
        Tree laid = laidTree();
        int left = l;
        for (int right = r - 1; left < right; right--) {
            row.exchange(left, right);
            left++;
        }
        return laid.renew(l, r);
    }

    public int swap(int i, int j) {
        if (!row.hasPlace(i) || !row.hasPlace(j)) {
            return NONE;
        }
        Tree laid = laidTree();
        row.exchange(i, j);
        return laid.renew(Math.min(i, j), Math.max(i, j) + 1);
    }

    public int insert(int place, int value) {
        if (place < 0 || place > row.length || !isValue(value) || row.length >= MOST_PLACES) {
            return NONE;
        }
        row.putIn(place, value);
        treeIsOld = true;
        return row.length;
    }

    public int remove(int place) {
        if (!row.hasPlace(place)) {
            return NO_VALUE;
        }
        int gone = row.takeOut(place);
        treeIsOld = true;
        return gone;
    }

    public int at(int place) throws NoSuchElementException {
        if (!row.hasPlace(place)) {
            throw new NoSuchElementException();
        }
        return row.cell[place];
    }

    // ---- places of a value

    public int count(int value, int l, int r) {
        if (!isValue(value) || !row.hasRange(l, r)) {
            return NONE;
        }
        return row.oftenIn(value, l, r);
    }

    public int place(int value, int k) {
        if (k < 0) {
            return NONE;
        }
        int seen = 0;
        for (int i = 0; i < row.length; i++) {
            if (row.cell[i] == value) {
                if (seen == k) {
                    return i;
                }
                seen++;
            }
        }
        return NONE;
    }

    public int values() {
        tally.learn(row);
        int unlike = 0;
        for (int i = 0; i < row.length; i++) {
            if (tally.kind[i] == i) {
                unlike++;
            }
        }
        return unlike;
    }

    // ---- summaries

    public int node(int l, int r) {
        if (!row.hasRange(l, r)) {
            return NONE;
        }
        Tree laid = laidTree();
        int id = laid.find(l, r);
        return id == NONE ? NO_SUCH_NODE : laid.size[id];
    }

    public int vote(int l, int r, int i, int what) throws NoSuchElementException {
        if (!row.hasRange(l, r) || what < 0 || what > 1) {
            throw new NoSuchElementException();
        }
        Tree laid = laidTree();
        int id = laid.find(l, r);
        if (id == NONE || i < 0 || i >= laid.size[id]) {
            throw new NoSuchElementException();
        }
        laid.copyTo(votes, id);
        return what == 0 ? votes.value[i] : votes.number[i];
    }

    public int loss(int l, int r) {
        if (!row.hasRange(l, r)) {
            return NONE;
        }
        Tree laid = laidTree();
        int id = laid.find(l, r);
        return id == NONE ? NO_SUCH_NODE : laid.lossOf[id];
    }

    public int cancelled(int l, int r) {
        if (!row.hasRange(l, r)) {
            return NONE;
        }
        Tree laid = laidTree();
        int id = laid.find(l, r);
        return id == NONE ? NO_SUCH_NODE : laid.lessBy[id];
    }

    public int above(int place, int i, int what) {
        if (!row.hasPlace(place)) {
            return NONE;
        }
        Tree laid = laidTree();
        if (i == NONE) {
            return laid.depthAt(place);
        }
        int id = laid.onPath(place, i);
        if (id == NONE) {
            return NONE;
        }
        switch (what) {
            case 0:
                return laid.from[id];
            case 1:
                return laid.to[id];
            case 2:
                return laid.numberIn(id, row.cell[place]);
            default:
                return NONE;
        }
    }

    public int holds(int place) {
        if (!row.hasPlace(place)) {
            return NONE;
        }
        return laidTree().holding(place);
    }

    public int parts(int l, int r) {
        if (!row.hasRange(l, r)) {
            return NONE;
        }
        Tree laid = laidTree();
        int many = 0;
        int next = l;
        for (int id = 0; id < laid.nodes; id++) {
            if (laid.isPart(id, next, r)) {
                next = laid.to[id];
                many++;
            }
        }
        return many;
    }

    public int part(int l, int r, int i, int what) {
        if (!row.hasRange(l, r) || i < 0 || what < 0 || what > 1) {
            return NONE;
        }
        Tree laid = laidTree();
        int seen = 0;
        int next = l;
        for (int id = 0; id < laid.nodes; id++) {
            if (laid.isPart(id, next, r)) {
                if (seen == i) {
                    return what == 0 ? laid.from[id] : laid.to[id];
                }
                next = laid.to[id];
                seen++;
            }
        }
        return NONE;
    }

    public int summary(int l, int r, int what) {
        if (!row.hasRange(l, r) || what < 0 || what > 2) {
            return NONE;
        }
        laidTree().gather(votes, l, r);
        switch (what) {
            case 0:
                return votes.size;
            case 1:
                return votes.total();
            default:
                return votes.lost;
        }
    }

    public int candidate(int l, int r, int i, int what) throws NoSuchElementException {
        if (!row.hasRange(l, r) || i < 0 || what < 0 || what > 2) {
            throw new NoSuchElementException();
        }
        laidTree().gather(votes, l, r);
        if (i >= votes.size) {
            throw new NoSuchElementException();
        }
        switch (what) {
            case 0:
                return votes.value[i];
            case 1:
                return votes.number[i];
            default:
                return row.oftenIn(votes.value[i], l, r);
        }
    }

    public int lost(int value, int l, int r) {
        if (!isValue(value) || !row.hasRange(l, r)) {
            return NONE;
        }
        laidTree().gather(votes, l, r);
        return row.oftenIn(value, l, r) - votes.numberOf(value);
    }

    public int surely(int l, int r) {
        if (!row.hasRange(l, r)) {
            return NO_VALUE;
        }
        laidTree().gather(votes, l, r);
        if (votes.size == 0) {
            return NO_VALUE;
        }
        int second = votes.size > 1 ? votes.number[1] : 0;
        return votes.number[0] > second + votes.lost ? votes.value[0] : NO_VALUE;
    }

    // ---- heavy ones

    public int heavy(int l, int r, int p, int q) {
        if (!row.hasRange(l, r) || !isShare(p, q)) {
            return NONE;
        }
        if (!isEnough(p, q)) {
            return NOT_ENOUGH;
        }
        gatherHeavy(laidTree(), l, r, p, q);
        return votes.size;
    }

    public int heavyAt(int l, int r, int p, int q, int i, int what) throws NoSuchElementException {
        if (!row.hasRange(l, r) || !isShare(p, q) || i < 0 || what < 0 || what > 1) {
            throw new NoSuchElementException();
        }
        if (!isEnough(p, q)) {
            throw new NoSuchElementException();
        }
        gatherHeavy(laidTree(), l, r, p, q);
        if (i >= votes.size) {
            throw new NoSuchElementException();
        }
        return what == 0 ? votes.value[i] : votes.number[i];
    }

    public int failed(int l, int r, int p, int q) {
        if (!row.hasRange(l, r) || !isShare(p, q)) {
            return NONE;
        }
        if (!isEnough(p, q)) {
            return NOT_ENOUGH;
        }
        Tree laid = laidTree();
        laid.gather(votes, l, r);
        int before = votes.size;
        gatherHeavy(laid, l, r, p, q);
        return before - votes.size;
    }

    public int least(int l, int r, int p, int q) {
        if (!row.hasRange(l, r) || r - l > MOST_FOR_LEAST || !isShare(p, q)) {
            return NONE;
        }
        int wanted = heavyValues(l, r, p, q);
        int found = BY_NO_SLOTS;
        Tree laid = laidTree();
        for (int k = 1; k <= MOST_SLOTS && found == BY_NO_SLOTS; k++) {
            // Fewer slots than heavy values cannot hold them all: the tree need not be tried.
            if (k >= wanted && heavyVotesBy(laid, k, l, r, p, q) == wanted) {
                found = k;
            }
        }
        laid.slotsHere = slotsNow;
        laid.renew(l, r);
        return found;
    }

    public int majority(int l, int r) {
        return row.hasRange(l, r) ? row.leader(l, r) : NO_VALUE;
    }

    public int margin(int value, int l, int r) {
        if (!isValue(value) || !row.hasRange(l, r)) {
            return NO_VALUE;
        }
        return 2 * row.oftenIn(value, l, r) - (r - l);
    }

    public int both(int l, int r, int l2, int r2, int p, int q) {
        int refused = refusalOfBoth(l, r, l2, r2, p, q);
        if (refused != 0) {
            return refused;
        }
        gatherHeavyOfBoth(laidTree(), l, r, l2, r2, p, q);
        return votes.size;
    }

    public int bothAt(int l, int r, int l2, int r2, int p, int q, int i) {
        if (i < 0 || refusalOfBoth(l, r, l2, r2, p, q) != 0) {
            return NO_VALUE;
        }
        gatherHeavyOfBoth(laidTree(), l, r, l2, r2, p, q);
        return i < votes.size ? votes.value[i] : NO_VALUE;
    }

    // ---- how far

    public int longest(int value, int p, int q, int what) {
        if (!isValue(value) || !isShare(p, q) || what < 0 || what > 1) {
            return NONE;
        }
        int bestFrom = NONE;
        int bestTo = NONE;
        for (int l = 0; l < row.length; l++) {
            int r = farthestHeavy(value, l, p, q);
            if (r != NONE && r - l > bestTo - bestFrom) {
                bestFrom = l;
                bestTo = r;
            }
        }
        return what == 0 ? bestFrom : bestTo;
    }

    public int reach(int l) {
        if (!row.hasPlace(l)) {
            return NONE;
        }
        tally.learn(row);
        tally.clear();
        int farthest = NONE;
        for (int i = l; i < row.length; i++) {
            tally.take(i);
            if (tally.hasMajority()) {
                farthest = i + 1;
            }
        }
        return farthest;
    }

    public int parted(int l, int r) {
        if (!row.hasRange(l, r)) {
            return NONE;
        }
        tally.learn(row);
        // One range for each place is always possible, so no place costs more than that.
        Arrays.fill(fewest, r - l);
        fewest[l] = 0;
        for (int start = l; start < r; start++) {
            tally.clear();
            for (int i = start; i < r; i++) {
                tally.take(i);
                if (tally.hasMajority()) {
                    fewest[i + 1] = Math.min(fewest[i + 1], fewest[start] + 1);
                }
            }
        }
        return fewest[r];
    }

    public int cut(int l, int r) {
        if (!row.hasRange(l, r)) {
            return NONE;
        }
        for (int m = l + 1; m < r; m++) {
            int left = row.leader(l, m);
            int right = row.leader(m, r);
            if (left != NO_VALUE && right != NO_VALUE && left != right) {
                return m;
            }
        }
        return NONE;
    }

    public int majorities() {
        tally.learn(row);
        int many = 0;
        for (int l = 0; l < row.length; l++) {
            tally.clear();
            for (int i = l; i < row.length; i++) {
                tally.take(i);
                if (tally.hasMajority()) {
                    many++;
                }
            }
        }
        return many;
    }

    public int windows(int w, int p, int q, int what) {
        if (what < 0 || what > 2) {
            return NONE;
        }
        if (w < 1 || w > row.length || !isShare(p, q)) {
            return what == 1 ? NO_VALUE : NONE;
        }
        int some = slideWindow(w, p, q);
        if (what == 0) {
            return some;
        }
        int best = kindOfMostWins();
        if (best == NONE) {
            return what == 1 ? NO_VALUE : 0;
        }
        return what == 1 ? row.cell[best] : wins[best];
    }

    // ---- what has to be

    public int needs(int value, int l, int r, int p, int q) {
        if (!isValue(value) || !row.hasRange(l, r) || !isShare(p, q)) {
            return NONE;
        }
        int wanted = mostWithoutHeavy(r - l, p, q) + 1;
        if (wanted > r - l) {
            return NEVER;
        }
        return Math.max(0, wanted - row.oftenIn(value, l, r));
    }

    public int spares(int value, int l, int r, int p, int q) {
        if (!isValue(value) || !row.hasRange(l, r) || !isShare(p, q)) {
            return NONE;
        }
        return Math.max(0, row.oftenIn(value, l, r) - mostWithoutHeavy(r - l, p, q));
    }

    public int would(int place, int value, int l, int r) {
        if (!row.hasPlace(place) || !isValue(value) || !row.hasRange(l, r)) {
            return NO_VALUE;
        }
        int own = row.cell[place];
        row.cell[place] = value;
        int leader = row.leader(l, r);
        row.cell[place] = own;
        return leader;
    }

    public int swings(int l, int r, int value, int what) {
        if (!row.hasRange(l, r) || r - l > MOST_FOR_SWINGS || !isValue(value) || what < 0 || what > 1) {
            return NONE;
        }
        Tree laid = laidTree();
        int bestPlace = NONE;
        int bestTotal = NONE;
        for (int i = l; i < r; i++) {
            int total = rootTotalWith(laid, i, value);
            if (total > bestTotal) {
                bestPlace = i;
                bestTotal = total;
            }
        }
        return what == 0 ? bestPlace : bestTotal;
    }

    public int told(int what) {
        switch (what) {
            case 0:
                return row.length;
            case 1:
                return slotsNow;
            case 2:
                return laidTree().nodes;
            case 3:
                return laidTree().nodesWithMajority();
            case 4:
                return laidTree().deepest();
            case 5:
                return row.length == 0 ? 0 : laidTree().lossOf[0];
            case 6:
                return laidTree().allLosses();
            default:
                return NONE;
        }
    }

    // ---- what the calls above share

    private static boolean isValue(int value) {
        return value >= LEAST_VALUE && value <= GREATEST_VALUE;
    }

    private static boolean isShare(int p, int q) {
        return p >= 1 && q >= p && q <= GREATEST_SHARE;
    }

    private static boolean isHeavy(int often, int length, int p, int q) {
        return often * q > p * length;
    }

    private boolean isEnough(int p, int q) {
        return p * (slotsNow + 1) >= q;
    }

    private static int mostWithoutHeavy(int length, int p, int q) {
        return q > 0 ? p * length / q : 0;
    }

    private Tree laidTree() {
        if (treeIsOld) {
            tree.layRanges();
            tree.slotsHere = slotsNow;
            tree.renew(0, row.length);
            treeIsOld = false;
        }
        return tree;
    }

    /** The tree comes laid for the row as it is ahead of the change: that is what is compared with. */
    private int overwrite(Tree laid, int l, int r, int value) {
        for (int i = l; i < r; i++) {
            row.cell[i] = value;
        }
        return laid.renew(l, r);
    }

    private void gatherHeavy(Tree laid, int l, int r, int p, int q) {
        laid.gather(votes, l, r);
        for (int i = 0; i < votes.size; i++) {
            votes.number[i] = row.oftenIn(votes.value[i], l, r);
        }
        votes.keepHeavy(r - l, p, q);
    }

    /** What both() answers if it tells no heavy ones; 0: it tells them. */
    private int refusalOfBoth(int l, int r, int l2, int r2, int p, int q) {
        if (!row.hasRange(l, r) || !row.hasRange(l2, r2) || !isShare(p, q)) {
            return NONE;
        }
        if (!isEnough(p, q)) {
            return NOT_ENOUGH;
        }
        return l < r2 && l2 < r ? SHARED_PLACE : 0;
    }

    private void gatherHeavyOfBoth(Tree laid, int l, int r, int l2, int r2, int p, int q) {
        laid.gather(votes, Math.min(l, l2), l < l2 ? r : r2);
        laid.gather(otherVotes, Math.max(l, l2), l < l2 ? r2 : r);
        votes.join(otherVotes);
        votes.cancel(slotsNow);
        for (int i = 0; i < votes.size; i++) {
            int value = votes.value[i];
            votes.number[i] = row.oftenIn(value, l, r) + row.oftenIn(value, l2, r2);
        }
        votes.keepHeavy(r - l + r2 - l2, p, q);
    }

    private int heavyValues(int l, int r, int p, int q) {
        int many = 0;
        for (int i = l; i < r; i++) {
            int value = row.cell[i];
            if (row.oftenIn(value, l, i) == 0 && isHeavy(row.oftenIn(value, i, r), r - l, p, q)) {
                many++;
            }
        }
        return many;
    }

    /** Leaves the nodes that touch the range as they are by k slots: the caller renews them. */
    private int heavyVotesBy(Tree laid, int k, int l, int r, int p, int q) {
        laid.slotsHere = k;
        laid.renew(l, r);
        laid.gather(votes, l, r);
        int many = 0;
        for (int i = 0; i < votes.size; i++) {
            if (isHeavy(row.oftenIn(votes.value[i], l, r), r - l, p, q)) {
                many++;
            }
        }
        return many;
    }

    private int farthestHeavy(int value, int l, int p, int q) {
        int farthest = NONE;
        int often = 0;
        for (int i = l; i < row.length; i++) {
            if (row.cell[i] == value) {
                often++;
            }
            if (isHeavy(often, i + 1 - l, p, q)) {
                farthest = i + 1;
            }
        }
        return farthest;
    }

    private int slideWindow(int w, int p, int q) {
        tally.learn(row);
        tally.clear();
        Arrays.fill(wins, 0);
        int some = 0;
        for (int i = 0; i < row.length; i++) {
            tally.take(i);
            if (i >= w) {
                tally.drop(i - w);
            }
            if (i >= w - 1 && creditHeavy(w, p, q)) {
                some++;
            }
        }
        return some;
    }

    private boolean creditHeavy(int w, int p, int q) {
        boolean some = false;
        for (int kind = 0; kind < row.length; kind++) {
            if (isHeavy(tally.often[kind], w, p, q)) {
                wins[kind]++;
                some = true;
            }
        }
        return some;
    }

    private int kindOfMostWins() {
        int best = NONE;
        int most = 0;
        for (int kind = 0; kind < row.length; kind++) {
            boolean like = best != NONE && wins[kind] == most && row.cell[kind] < row.cell[best];
            if (wins[kind] > most || like) {
                best = kind;
                most = wins[kind];
            }
        }
        return best;
    }

    private int rootTotalWith(Tree laid, int place, int value) {
        int own = row.cell[place];
        row.cell[place] = value;
        laid.renew(place, place + 1);
        laid.copyTo(votes, 0);
        int total = votes.total();
        row.cell[place] = own;
        laid.renew(place, place + 1);
        return total;
    }

    /** The values by their places. */
    private static final class Row {
        final int[] cell = new int[MOST_PLACES];
        int length;

        boolean hasPlace(int place) {
            return place >= 0 && place < length;
        }

        boolean hasRange(int l, int r) {
            return l >= 0 && l < r && r <= length;
        }

        void append(int value) {
            if (length < MOST_PLACES) {
                cell[length] = value;
                length++;
            }
        }

        void putIn(int place, int value) {
            if (place < 0 || place > length || length >= MOST_PLACES) {
                return;
            }
            for (int i = length; i > place; i--) {
                cell[i] = cell[i - 1];
            }
            cell[place] = value;
            length++;
        }

        int takeOut(int place) {
            if (!hasPlace(place)) {
                return NO_VALUE;
            }
            int gone = cell[place];
            for (int i = place; i < length - 1; i++) {
                cell[i] = cell[i + 1];
            }
            length--;
            return gone;
        }

        void exchange(int i, int j) {
            int kept = cell[i];
            cell[i] = cell[j];
            cell[j] = kept;
        }

        int oftenIn(int value, int l, int r) {
            int often = 0;
            for (int i = l; i < r; i++) {
                if (cell[i] == value) {
                    often++;
                }
            }
            return often;
        }

        int firstLike(int place) {
            for (int i = 0; i < place; i++) {
                if (cell[i] == cell[place]) {
                    return i;
                }
            }
            return place;
        }

        /** The majority of a range, or NO_VALUE: votes of unlike ones cancel, what is left is counted. */
        int leader(int l, int r) {
            int left = NO_VALUE;
            int lead = 0;
            for (int i = l; i < r; i++) {
                if (lead == 0) {
                    left = cell[i];
                    lead = 1;
                } else {
                    lead += cell[i] == left ? 1 : -1;
                }
            }
            return isHeavy(oftenIn(left, l, r), r - l, 1, 2) ? left : NO_VALUE;
        }
    }

    /** One summary; it has room for two of them, as these lie together before they are cancelled. */
    private static final class Votes {
        final int[] value = new int[2 * MOST_SLOTS];
        final int[] number = new int[2 * MOST_SLOTS];
        int size;
        int lost;
        int lessBy;

        void clear() {
            size = 0;
            lost = 0;
            lessBy = 0;
        }

        void add(int voted, int many) {
            for (int i = 0; i < size; i++) {
                if (value[i] == voted) {
                    number[i] += many;
                    return;
                }
            }
            if (size < value.length) {
                value[size] = voted;
                number[size] = many;
                size++;
            }
        }

        void join(Votes other) {
            for (int i = 0; i < other.size; i++) {
                add(other.value[i], other.number[i]);
            }
            lost += other.lost;
        }

        void cancel(int slots) {
            order();
            lessBy = slots >= 0 && slots < size ? number[slots] : 0;
            lost += lessBy;
            int kept = 0;
            for (int i = 0; i < size; i++) {
                number[i] -= lessBy;
                if (number[i] > 0) {
                    kept++;
                }
            }
            // They are in order: those that are above 0 yet are the first ones.
            size = kept;
        }

        void order() {
            for (int i = 1; i < size; i++) {
                for (int j = i; j > 0 && isAhead(j, j - 1); j--) {
                    exchange(j, j - 1);
                }
            }
        }

        void keepHeavy(int length, int p, int q) {
            int kept = 0;
            for (int i = 0; i < size; i++) {
                if (isHeavy(number[i], length, p, q)) {
                    exchange(i, kept);
                    kept++;
                }
            }
            size = kept;
            order();
        }

        int numberOf(int voted) {
            for (int i = 0; i < size; i++) {
                if (value[i] == voted) {
                    return number[i];
                }
            }
            return 0;
        }

        int total() {
            int all = 0;
            for (int i = 0; i < size; i++) {
                all += number[i];
            }
            return all;
        }

        private boolean isAhead(int i, int j) {
            return number[i] > number[j] || number[i] == number[j] && value[i] < value[j];
        }

        private void exchange(int i, int j) {
            int keptValue = value[i];
            int keptNumber = number[i];
            value[i] = value[j];
            number[i] = number[j];
            value[j] = keptValue;
            number[j] = keptNumber;
        }
    }

    /**
     * The nodes, each ahead of those below it and the left one's ahead of the right one's.
     * So a loop upwards meets the nodes of a place from the root on and the parts of a range
     * from the left on, and a loop downwards meets no node before those below it.
     */
    private static final class Tree {
        final Row row;
        final Votes joined = new Votes();
        final int[] from = new int[MOST_NODES];
        final int[] to = new int[MOST_NODES];
        final int[] size = new int[MOST_NODES];
        final int[] lossOf = new int[MOST_NODES];
        final int[] lessBy = new int[MOST_NODES];
        final int[] value = new int[MOST_NODES * MOST_SLOTS];
        final int[] number = new int[MOST_NODES * MOST_SLOTS];
        int nodes;
        int slotsHere;

        Tree(Row row) {
            this.row = row;
        }

        void layRanges() {
            nodes = row.length == 0 ? 0 : 2 * row.length - 1;
            from[0] = 0;
            to[0] = row.length;
            for (int id = 0; id < nodes; id++) {
                if (to[id] - from[id] > 1) {
                    layBelow(id);
                }
            }
        }

        private void layBelow(int id) {
            int middle = (from[id] + to[id]) / 2;
            int right = rightBelow(id);
            from[id + 1] = from[id];
            to[id + 1] = middle;
            from[right] = middle;
            to[right] = to[id];
        }

        /** A node of n places has 2 n - 1 nodes, so the right one's number is known from the left one's places. */
        private int rightBelow(int id) {
            int middle = (from[id] + to[id]) / 2;
            return id + 2 * (middle - from[id]);
        }

        /** Makes the summaries anew of all nodes that have a place of the range: how many are others now. */
        int renew(int l, int r) {
            int others = 0;
            for (int id = nodes - 1; id >= 0; id--) {
                if (from[id] < r && l < to[id]) {
                    putTogether(id);
                    if (!isJoined(id)) {
                        others++;
                    }
                    keepJoined(id);
                }
            }
            return others;
        }

        private void putTogether(int id) {
            joined.clear();
            if (to[id] - from[id] == 1) {
                joined.add(row.cell[from[id]], 1);
            } else {
                joinNode(joined, id + 1);
                joinNode(joined, rightBelow(id));
                joined.cancel(slotsHere);
            }
        }

        private void joinNode(Votes into, int id) {
            int first = id * MOST_SLOTS;
            for (int i = 0; i < size[id]; i++) {
                into.add(value[first + i], number[first + i]);
            }
            into.lost += lossOf[id];
        }

        private boolean isJoined(int id) {
            if (size[id] != joined.size || lossOf[id] != joined.lost) {
                return false;
            }
            int first = id * MOST_SLOTS;
            for (int i = 0; i < joined.size && i < MOST_SLOTS; i++) {
                if (value[first + i] != joined.value[i] || number[first + i] != joined.number[i]) {
                    return false;
                }
            }
            return true;
        }

        private void keepJoined(int id) {
            int first = id * MOST_SLOTS;
            for (int i = 0; i < joined.size && i < MOST_SLOTS; i++) {
                value[first + i] = joined.value[i];
                number[first + i] = joined.number[i];
            }
            size[id] = Math.min(joined.size, MOST_SLOTS);
            lossOf[id] = joined.lost;
            lessBy[id] = joined.lessBy;
        }

        void copyTo(Votes into, int id) {
            into.clear();
            joinNode(into, id);
        }

        int find(int l, int r) {
            for (int id = 0; id < nodes; id++) {
                if (from[id] == l && to[id] == r) {
                    return id;
                }
            }
            return NONE;
        }

        /**
         * Whether a node is the part of a range that begins at next. Asked in the nodes' order, the
         * first that begins there and does not go beyond r is the greatest such one.
         */
        boolean isPart(int id, int next, int r) {
            return from[id] == next && to[id] <= r;
        }

        void gather(Votes into, int l, int r) {
            into.clear();
            int next = l;
            for (int id = 0; id < nodes; id++) {
                if (isPart(id, next, r)) {
                    next = to[id];
                    joinNode(into, id);
                    into.cancel(slotsHere);
                }
            }
        }

        boolean hasPlace(int id, int place) {
            return from[id] <= place && place < to[id];
        }

        int depthAt(int place) {
            int deep = 0;
            for (int id = 0; id < nodes; id++) {
                if (hasPlace(id, place)) {
                    deep++;
                }
            }
            return deep;
        }

        int onPath(int place, int i) {
            int seen = 0;
            for (int id = 0; id < nodes; id++) {
                if (hasPlace(id, place)) {
                    if (seen == i) {
                        return id;
                    }
                    seen++;
                }
            }
            return NONE;
        }

        int numberIn(int id, int voted) {
            int first = id * MOST_SLOTS;
            for (int i = 0; i < size[id]; i++) {
                if (value[first + i] == voted) {
                    return number[first + i];
                }
            }
            return 0;
        }

        int holding(int place) {
            int many = 0;
            for (int id = nodes - 1; id >= 0; id--) {
                if (hasPlace(id, place)) {
                    if (numberIn(id, row.cell[place]) == 0) {
                        return many;
                    }
                    many++;
                }
            }
            return many;
        }

        int nodesWithMajority() {
            int many = 0;
            for (int id = 0; id < nodes; id++) {
                if (row.leader(from[id], to[id]) != NO_VALUE) {
                    many++;
                }
            }
            return many;
        }

        /** Of two halves the greater one is never the less deep one. */
        int deepest() {
            int deep = nodes == 0 ? 0 : 1;
            for (int places = row.length; places > 1; places -= places / 2) {
                deep++;
            }
            return deep;
        }

        int allLosses() {
            int all = 0;
            for (int id = 0; id < nodes; id++) {
                all += lossOf[id];
            }
            return all;
        }
    }

    /** How often each value is among the places taken; a value goes by the first place that has it. */
    private static final class Tally {
        final int[] kind = new int[MOST_PLACES];
        final int[] often = new int[MOST_PLACES];
        int taken;
        int most;

        void learn(Row row) {
            for (int i = 0; i < row.length; i++) {
                kind[i] = row.firstLike(i);
            }
        }

        void clear() {
            Arrays.fill(often, 0);
            taken = 0;
            most = 0;
        }

        void take(int place) {
            int now = often[kind[place]] + 1;
            often[kind[place]] = now;
            taken++;
            if (now > most) {
                most = now;
            }
        }

        /** Leaves most as it was: the windows, which alone drop places, look at each value. */
        void drop(int place) {
            often[kind[place]]--;
            taken--;
        }

        boolean hasMajority() {
            return 2 * most > taken;
        }
    }
}
