import java.math.BigInteger;
import java.util.ArrayList;
import java.util.List;
import java.util.NoSuchElementException;

/**
 * The document taken at its word, as slowly as that is: every table that fits is made and every ring in it tried.
 * It shares no thought with TwoWaySeats but the document's own.
 */
final class Reference {
    /** An exact fraction above 0. */
    record Ratio(BigInteger above, BigInteger below) {
        static Ratio of(long above, long below) {
            return new Ratio(BigInteger.valueOf(above), BigInteger.valueOf(below));
        }

        Ratio times(Ratio other) {
            BigInteger a = above.multiply(other.above);
            BigInteger b = below.multiply(other.below);
            BigInteger g = a.gcd(b);
            return new Ratio(a.divide(g), b.divide(g));
        }

        Ratio plus(Ratio other) {
            BigInteger a = above.multiply(other.below).add(other.above.multiply(below));
            return new Ratio(a, below.multiply(other.below));
        }

        int compare(Ratio other) {
            return above.multiply(other.below).compareTo(other.above.multiply(below));
        }

        boolean isPositive() {
            return above.signum() > 0;
        }
    }

    private record Ring(int[] districts, int[] parties) {
    }

    private final List<Integer> sizes = new ArrayList<>();
    private int parties = 0;
    private final int[][] votes = new int[4][4];
    private final int[][] proposal = new int[4][4];
    private final int[] holder = {-1, -1, -1, -1};
    private boolean weighed = false;
    private int threshold = 0;

    private boolean solved = false;
    private List<int[][]> obeying = new ArrayList<>();
    private int block = 0;

    int district(int seats) {
        int all = seats;
        for (int size : sizes) {
            all += size;
        }
        if (seats < 1 || seats > 20 || all > 20) {
            throw new IllegalArgumentException();
        }
        if (sizes.size() == 4) {
            throw new UnsupportedOperationException();
        }
        solved = false;
        sizes.add(seats);
        return sizes.size() - 1;
    }

    int party() {
        if (parties == 4) {
            throw new UnsupportedOperationException();
        }
        solved = false;
        return parties++;
    }

    void votes(int district, int party, int n) {
        look(district, party);
        if (n < 0 || n > 500) {
            throw new IllegalArgumentException();
        }
        solved = false;
        votes[district][party] = n;
    }

    void weigh(boolean on) {
        solved = false;
        weighed = on;
    }

    void threshold(int thousandths) {
        if (thousandths < 0 || thousandths > 1000) {
            throw new IllegalArgumentException();
        }
        solved = false;
        threshold = thousandths;
    }

    void lot(int position, int party) {
        if (position < 0 || position > 3) {
            throw new IndexOutOfBoundsException();
        }
        look(true, party);
        solved = false;
        for (int k = 0; k < 4; k++) {
            if (holder[k] == party) {
                holder[k] = -1;
            }
        }
        holder[position] = party;
    }

    int count(boolean ofParties) {
        return ofParties ? parties : sizes.size();
    }

    int share(int party) {
        lookForShares();
        look(true, party);
        return shares()[party];
    }

    boolean tied(int party) {
        lookForShares();
        look(true, party);
        int[] share = shares();
        for (int other = 0; other < parties; other++) {
            if (other != party && (meet(share, party, other) || meet(share, other, party))) {
                return true;
            }
        }
        return false;
    }

    boolean solve() {
        lookForShares();
        solved = true;
        obeying = new ArrayList<>();
        block = 0;
        List<int[][]> fitting = new ArrayList<>();
        makeTables(new int[sizes.size()][parties], 0, fitting);
        for (int[][] table : fitting) {
            if (obeys(table)) {
                obeying.add(table);
            }
        }
        if (fitting.isEmpty()) {
            findBlock();
        }
        return !obeying.isEmpty();
    }

    int seats(int district, int party, boolean last) {
        lookForTable();
        look(district, party);
        return obeying.get(last ? obeying.size() - 1 : 0)[district][party];
    }

    boolean unique() {
        lookForTable();
        return obeying.size() == 1;
    }

    long number(boolean party, int k, boolean below) {
        lookForTable();
        look(party, k);
        Ratio number = numbers()[party ? sizes.size() + k : k];
        if (number == null) {
            throw new NoSuchElementException();
        }
        return (below ? number.below : number.above).longValueExact();
    }

    boolean blocks(boolean party, int k) {
        if (!solved || !obeying.isEmpty()) {
            throw new IllegalStateException();
        }
        look(party, k);
        return party ? hasVotesIn(k, block) : (block & 1 << k) != 0;
    }

    void propose(int district, int party, int n) {
        look(district, party);
        if (n < 0 || n > 20) {
            throw new IllegalArgumentException();
        }
        proposal[district][party] = n;
    }

    int judge() {
        lookForShares();
        int[] share = shares();
        for (int d = 0; d < sizes.size(); d++) {
            for (int p = 0; p < parties; p++) {
                if (proposal[d][p] > 0 && live(d, p) == 0) {
                    return 1;
                }
            }
        }
        for (int d = 0; d < sizes.size(); d++) {
            int sum = 0;
            for (int p = 0; p < parties; p++) {
                sum += proposal[d][p];
            }
            if (sum != sizes.get(d)) {
                return 2;
            }
        }
        for (int p = 0; p < parties; p++) {
            int sum = 0;
            for (int d = 0; d < sizes.size(); d++) {
                sum += proposal[d][p];
            }
            if (sum != share[p]) {
                return 3;
            }
        }
        return obeys(proposal) ? 0 : 4;
    }

    /** How many tables obey, for the tests to see whether they meet ties. */
    int howManyObey() {
        return obeying.size();
    }

    int[][] table(int k) {
        return obeying.get(k);
    }

    private void look(int district, int party) {
        look(false, district);
        look(true, party);
    }

    private void look(boolean party, int k) {
        if (k < 0 || k >= (party ? parties : sizes.size())) {
            throw new IndexOutOfBoundsException();
        }
    }

    private void lookForTable() {
        if (!solved || obeying.isEmpty()) {
            throw new IllegalStateException();
        }
    }

    private void lookForShares() {
        boolean any = false;
        for (int p = 0; p < parties; p++) {
            any |= weight(p).isPositive();
        }
        if (!any) {
            throw new IllegalStateException();
        }
    }

    private int live(int district, int party) {
        int all = 0;
        int own = 0;
        for (int d = 0; d < sizes.size(); d++) {
            for (int p = 0; p < parties; p++) {
                all += votes[d][p];
                own += p == party ? votes[d][p] : 0;
            }
        }
        return 1000 * own < threshold * all ? 0 : votes[district][party];
    }

    private Ratio weight(int party) {
        Ratio sum = Ratio.of(0, 1);
        for (int d = 0; d < sizes.size(); d++) {
            sum = sum.plus(Ratio.of(live(d, party), weighed ? sizes.get(d) : 1));
        }
        return sum;
    }

    private List<Integer> order() {
        List<Integer> order = new ArrayList<>();
        for (int party : holder) {
            if (party >= 0) {
                order.add(party);
            }
        }
        for (int p = 0; p < parties; p++) {
            if (!order.contains(p)) {
                order.add(p);
            }
        }
        return order;
    }

    private int[] shares() {
        int[] share = new int[parties];
        int all = 0;
        for (int size : sizes) {
            all += size;
        }
        for (int seat = 0; seat < all; seat++) {
            int best = -1;
            for (int p : order()) {
                if (best < 0 || weight(p).times(Ratio.of(1, 2 * share[p] + 1))
                        .compare(weight(best).times(Ratio.of(1, 2 * share[best] + 1))) > 0) {
                    best = p;
                }
            }
            share[best]++;
        }
        return share;
    }

    private boolean meet(int[] share, int one, int other) {
        if (share[one] == 0 || !weight(one).isPositive()) {
            return false;
        }
        Ratio last = weight(one).times(Ratio.of(1, 2 * share[one] - 1));
        Ratio next = weight(other).times(Ratio.of(1, 2 * share[other] + 1));
        return last.compare(next) == 0;
    }

    /** All tables that fit, those with more seats for the first list for which they differ before the others. */
    private void makeTables(int[][] table, int from, List<int[][]> found) {
        int[] rowRoom = new int[sizes.size()];
        int[] columnRoom = shares();
        boolean[][] has = new boolean[sizes.size()][parties];
        for (int d = 0; d < sizes.size(); d++) {
            rowRoom[d] = sizes.get(d);
            for (int p = 0; p < parties; p++) {
                has[d][p] = live(d, p) > 0;
            }
        }
        makeTables(table, from, rowRoom, columnRoom, has, found);
    }

    private void makeTables(int[][] table, int list, int[] rowRoom, int[] columnRoom, boolean[][] has,
            List<int[][]> found) {
        int d = list / parties;
        int p = list % parties;
        if (list > 0 && p == 0 && rowRoom[d - 1] != 0) {
            return;
        }
        if (d == sizes.size()) {
            for (int room : columnRoom) {
                if (room != 0) {
                    return;
                }
            }
            int[][] copy = new int[table.length][];
            for (int k = 0; k < table.length; k++) {
                copy[k] = table[k].clone();
            }
            found.add(copy);
            return;
        }
        int most = has[d][p] ? Math.min(rowRoom[d], columnRoom[p]) : 0;
        for (int n = most; n >= 0; n--) {
            table[d][p] = n;
            rowRoom[d] -= n;
            columnRoom[p] -= n;
            makeTables(table, list + 1, rowRoom, columnRoom, has, found);
            rowRoom[d] += n;
            columnRoom[p] += n;
        }
        table[d][p] = 0;
    }

    private boolean obeys(int[][] table) {
        int[][] live = new int[sizes.size()][parties];
        for (int d = 0; d < sizes.size(); d++) {
            for (int p = 0; p < parties; p++) {
                live[d][p] = live(d, p);
            }
        }
        for (Ring ring : ALL_RINGS[sizes.size()][parties]) {
            if (gainsAlong(ring, table, live)) {
                return false;
            }
        }
        return true;
    }

    private static boolean gainsAlong(Ring ring, int[][] table, int[][] live) {
        int k = ring.districts.length;
        long above = 1;
        long below = 1;
        for (int i = 0; i < k; i++) {
            int d = ring.districts[i];
            int next = ring.districts[(i + 1) % k];
            int p = ring.parties[i];
            if (live[d][p] == 0 || table[next][p] == 0) {
                return false;
            }
            above = Math.multiplyExact(above, (long) live[d][p] * (2 * table[next][p] - 1));
            below = Math.multiplyExact(below, (long) (2 * table[d][p] + 1) * live[next][p]);
        }
        return above > below;
    }

    @SuppressWarnings("unchecked")
    private static final List<Ring>[][] ALL_RINGS = new List[5][5];

    static {
        for (int districts = 0; districts <= 4; districts++) {
            for (int parties = 0; parties <= 4; parties++) {
                List<Ring> rings = new ArrayList<>();
                for (int k = 2; k <= Math.min(districts, parties); k++) {
                    for (int[] ds : choices(districts, k)) {
                        for (int[] ps : choices(parties, k)) {
                            rings.add(new Ring(ds, ps));
                        }
                    }
                }
                ALL_RINGS[districts][parties] = rings;
            }
        }
    }

    /** All rows of k different numbers below n. */
    private static List<int[]> choices(int n, int k) {
        List<int[]> found = new ArrayList<>();
        int rows = (int) Math.pow(n, k);
        for (int code = 0; code < rows; code++) {
            int[] row = new int[k];
            int used = 0;
            int rest = code;
            for (int i = 0; i < k; i++) {
                row[i] = rest % n;
                rest /= n;
                used |= 1 << row[i];
            }
            if (Integer.bitCount(used) == k) {
                found.add(row);
            }
        }
        return found;
    }

    /** The greatest products over all chains of up to sixteen ways, more than any chain without a repeat has. */
    private Ratio[] numbers() {
        int districts = sizes.size();
        int[][] table = obeying.get(0);
        Ratio[] best = new Ratio[districts + parties];
        for (int d = 0; d < districts; d++) {
            best[d] = Ratio.of(1, 1);
        }
        for (int ways = 1; ways <= 16; ways++) {
            Ratio[] next = best.clone();
            for (int d = 0; d < districts; d++) {
                for (int p = 0; p < parties; p++) {
                    int v = live(d, p);
                    int s = table[d][p];
                    int column = districts + p;
                    if (v > 0) {
                        next[column] = greater(next[column], best[d].times(Ratio.of(v, 2 * s + 1)));
                    }
                    if (s > 0 && best[column] != null) {
                        next[d] = greater(next[d], best[column].times(Ratio.of(2 * s - 1, v)));
                    }
                }
            }
            best = next;
        }
        return best;
    }

    private static Ratio greater(Ratio one, Ratio other) {
        return one == null || other.compare(one) > 0 ? other : one;
    }

    private boolean hasVotesIn(int party, int set) {
        for (int d = 0; d < sizes.size(); d++) {
            if ((set & 1 << d) != 0 && live(d, party) > 0) {
                return true;
            }
        }
        return false;
    }

    private void findBlock() {
        int[] share = shares();
        for (int set = 1 << sizes.size(); set-- > 0; ) {
            int seats = 0;
            for (int d = 0; d < sizes.size(); d++) {
                seats += (set & 1 << d) != 0 ? sizes.get(d) : 0;
            }
            int room = 0;
            for (int p = 0; p < parties; p++) {
                room += hasVotesIn(p, set) ? share[p] : 0;
            }
            if (seats > room) {
                block = set;
            }
        }
    }
}
