import java.util.Arrays;
import java.util.NoSuchElementException;

/**
 * Seats of a parliament shared two ways at once: every district has its seats, every party its share of all.
 * What the calls promise stands in DOC.md. A list is kept at the index district * SIDE + party.
 */
public final class TwoWaySeats {
    /** The most districts, and the most parties, that there can be. */
    private static final int SIDE = 4;
    private static final int LISTS = SIDE * SIDE;
    private static final int MOST_SEATS = 20;
    private static final int MOST_VOTES = 500;
    private static final int MOST_THRESHOLD = 1000;

    private final Election election;
    private final Shares shares;
    private final Solution solution;
    private final Rings rings;
    private final int[] proposal;

    public TwoWaySeats() {
        election = new Election();
        shares = new Shares();
        solution = new Solution();
        rings = new Rings();
        proposal = new int[LISTS];
    }

    public int district(int seats) throws IllegalArgumentException, UnsupportedOperationException {
        if (seats < 1 || seats > MOST_SEATS || election.allSeats() + seats > MOST_SEATS) {
            throw new IllegalArgumentException("a district has 1 .. 20 seats, all together 20 at most");
        }
        if (election.districts >= SIDE) {
            throw new UnsupportedOperationException("there are four districts");
        }
        solution.forget();
        return election.addDistrict(seats);
    }

    public int party() throws UnsupportedOperationException {
        if (election.parties >= SIDE) {
            throw new UnsupportedOperationException("there are four parties");
        }
        solution.forget();
        return election.addParty();
    }

    public void votes(int district, int party, int n) throws IndexOutOfBoundsException, IllegalArgumentException {
        requireDistrict(district);
        requireParty(party);
        if (n < 0 || n > MOST_VOTES) {
            throw new IllegalArgumentException("a list has 0 .. 500 votes");
        }
        solution.forget();
        election.votes[district * SIDE + party] = n;
    }

    public void weigh(boolean on) {
        solution.forget();
        election.weighed = on;
    }

    public void threshold(int thousandths) throws IllegalArgumentException {
        if (thousandths < 0 || thousandths > MOST_THRESHOLD) {
            throw new IllegalArgumentException("the threshold is 0 .. 1000");
        }
        solution.forget();
        election.threshold = thousandths;
    }

    public void lot(int position, int party) throws IndexOutOfBoundsException {
        if (position < 0 || position >= SIDE) {
            throw new IndexOutOfBoundsException("a position is 0 .. 3");
        }
        requireParty(party);
        solution.forget();
        election.place(position, party);
    }

    public int count(boolean parties) {
        return parties ? election.parties : election.districts;
    }

    public int share(int party) throws IllegalStateException, IndexOutOfBoundsException {
        requireShares();
        requireParty(party);
        return shares.given[party];
    }

    public boolean tied(int party) throws IllegalStateException, IndexOutOfBoundsException {
        requireShares();
        requireParty(party);
        return shares.hasRival(party);
    }

    public boolean solve() throws IllegalStateException {
        requireShares();
        if (!solution.done) {
            solution.find(election, shares);
        }
        return solution.fits;
    }

    public int seats(int district, int party, boolean last) throws IllegalStateException, IndexOutOfBoundsException {
        requireTable();
        requireDistrict(district);
        requireParty(party);
        int list = district * SIDE + party;
        return last ? solution.last[list] : solution.first[list];
    }

    public boolean unique() throws IllegalStateException {
        requireTable();
        return solution.isAlone();
    }

    public long number(boolean party, int k, boolean below)
            throws IllegalStateException, IndexOutOfBoundsException, NoSuchElementException {
        requireTable();
        requireEither(party, k);
        int node = party ? SIDE + k : k;
        if (!solution.numbers.isReached(node)) {
            throw new NoSuchElementException("no way leads to this party");
        }
        return below ? solution.numbers.below[node] : solution.numbers.above[node];
    }

    public boolean blocks(boolean party, int k) throws IllegalStateException, IndexOutOfBoundsException {
        if (!solution.done || solution.fits) {
            throw new IllegalStateException("there is no block");
        }
        requireEither(party, k);
        int block = party ? solution.blockParties : solution.blockDistricts;
        return (block >> k & 1) != 0;
    }

    public void propose(int district, int party, int n) throws IndexOutOfBoundsException, IllegalArgumentException {
        requireDistrict(district);
        requireParty(party);
        if (n < 0 || n > MOST_SEATS) {
            throw new IllegalArgumentException("a list is proposed 0 .. 20 seats");
        }
        proposal[district * SIDE + party] = n;
    }

    public int judge() throws IllegalStateException {
        requireShares();
        if (proposesForNoVotes()) {
            return 1;
        }
        if (proposesOtherDistricts()) {
            return 2;
        }
        if (proposesOtherShares()) {
            return 3;
        }
        return rings.anyGains(election.counted, proposal) ? 4 : 0;
    }

    private boolean proposesForNoVotes() {
        for (int list = 0; list < LISTS; list++) {
            if (proposal[list] > 0 && election.counted[list] == 0) {
                return true;
            }
        }
        return false;
    }

    private boolean proposesOtherDistricts() {
        for (int d = 0; d < SIDE; d++) {
            if (districtSum(proposal, d) != election.size[d]) {
                return true;
            }
        }
        return false;
    }

    private boolean proposesOtherShares() {
        for (int p = 0; p < SIDE; p++) {
            if (partySum(proposal, p) != shares.given[p]) {
                return true;
            }
        }
        return false;
    }

    private void requireDistrict(int district) {
        if (district < 0 || district >= election.districts) {
            throw new IndexOutOfBoundsException("no such district");
        }
    }

    private void requireParty(int party) {
        if (party < 0 || party >= election.parties) {
            throw new IndexOutOfBoundsException("no such party");
        }
    }

    private void requireEither(boolean party, int k) {
        if (party) {
            requireParty(k);
        } else {
            requireDistrict(k);
        }
    }

    /** Leaves the counted votes and the shares up to date, since every call that needs them asks here first. */
    private void requireShares() {
        election.countVotes();
        shares.give(election);
        if (!shares.any) {
            throw new IllegalStateException("there is nothing to share");
        }
    }

    private void requireTable() {
        if (!solution.done || !solution.fits) {
            throw new IllegalStateException("there is no table");
        }
    }

    private static int districtSum(int[] table, int district) {
        int sum = 0;
        for (int p = 0; p < SIDE; p++) {
            sum += table[district * SIDE + p];
        }
        return sum;
    }

    private static int partySum(int[] table, int party) {
        int sum = 0;
        for (int d = 0; d < SIDE; d++) {
            sum += table[d * SIDE + party];
        }
        return sum;
    }

    /** What the caller has said there is; districts and parties that are not there have no seats and no votes. */
    private static final class Election {
        int districts;
        int parties;
        final int[] size = new int[SIDE];
        final int[] votes = new int[LISTS];
        /** The votes without those of parties that are out. */
        final int[] counted = new int[LISTS];
        boolean weighed;
        int threshold;
        /** The position of each party; SIDE, behind all positions, stands for none. */
        final int[] position = new int[SIDE];

        Election() {
            Arrays.fill(position, SIDE);
        }

        int addDistrict(int seats) {
            size[districts] = seats;
            districts++;
            return districts - 1;
        }

        int addParty() {
            parties++;
            return parties - 1;
        }

        void place(int place, int party) {
            for (int p = 0; p < SIDE; p++) {
                if (position[p] == place) {
                    position[p] = SIDE;
                }
            }
            position[party] = place;
        }

        int rank(int party) {
            return position[party] * SIDE + party;
        }

        int allSeats() {
            return size[0] + size[1] + size[2] + size[3];
        }

        void countVotes() {
            int all = 0;
            for (int list = 0; list < LISTS; list++) {
                all += votes[list];
            }
            for (int p = 0; p < SIDE; p++) {
                boolean out = 1000 * partySum(votes, p) < threshold * all;
                for (int d = 0; d < SIDE; d++) {
                    int list = d * SIDE + p;
                    counted[list] = out ? 0 : votes[list];
                }
            }
        }

        /** The party's weight times one number that is the same for all parties, which makes it whole. */
        long wholeWeight(int party) {
            long sum = 0;
            for (int d = 0; d < districts; d++) {
                long one = counted[d * SIDE + party];
                sum += weighed ? one * seatsOfOthers(d) : one;
            }
            return sum;
        }

        private long seatsOfOthers(int district) {
            long product = 1;
            for (int d = 0; d < districts; d++) {
                if (d != district) {
                    product *= size[d];
                }
            }
            return product;
        }
    }

    /** How many of all seats each party gets. */
    private static final class Shares {
        final long[] weight = new long[SIDE];
        final int[] given = new int[SIDE];
        /** Whether there is something to share. */
        boolean any;

        void give(Election election) {
            any = false;
            for (int p = 0; p < SIDE; p++) {
                weight[p] = election.wholeWeight(p);
                given[p] = 0;
                any = any || weight[p] > 0;
            }
            if (any) {
                int all = election.allSeats();
                for (int seat = 0; seat < all; seat++) {
                    given[nextParty(election)]++;
                }
            }
        }

        private int nextParty(Election election) {
            int best = 0;
            for (int p = 1; p < SIDE; p++) {
                long claim = weight[p] * (2 * given[best] + 1);
                long other = weight[best] * (2 * given[p] + 1);
                if (claim > other || claim == other && election.rank(p) < election.rank(best)) {
                    best = p;
                }
            }
            return best;
        }

        boolean hasRival(int party) {
            for (int p = 0; p < SIDE; p++) {
                if (p != party && (couldPass(p, party) || couldPass(party, p))) {
                    return true;
                }
            }
            return false;
        }

        /** Both sides are above 0, since a party that was given a seat has a weight. */
        private boolean couldPass(int from, int to) {
            return given[from] > 0 && weight[from] * (2 * given[to] + 1) == weight[to] * (2 * given[from] - 1);
        }
    }

    /** What was solved: the first and the last table and the numbers, or the block. */
    private static final class Solution {
        boolean done;
        boolean fits;
        final int[] first = new int[LISTS];
        final int[] last = new int[LISTS];
        final Ways numbers = new Ways();
        int blockDistricts;
        int blockParties;
        private final Ways search = new Ways();

        void forget() {
            done = false;
        }

        boolean isAlone() {
            for (int list = 0; list < LISTS; list++) {
                if (first[list] != last[list]) {
                    return false;
                }
            }
            return true;
        }

        void find(Election election, Shares shares) {
            done = true;
            fits = !findBlock(election, shares);
            if (fits) {
                fill(election, shares);
                makeFirst(election.counted);
                System.arraycopy(first, 0, last, 0, LISTS);
                makeLast(election.counted);
                findNumbers(election);
            }
        }

        /** A table fits just if no set of districts has more seats than its parties (Hall), so this decides it. */
        private boolean findBlock(Election election, Shares shares) {
            int sets = 1 << election.districts;
            for (int set = 1; set < sets; set++) {
                int room = 0;
                int near = partiesIn(election, set);
                for (int k = 0; k < SIDE; k++) {
                    room += (near >> k & 1) * shares.given[k] - (set >> k & 1) * election.size[k];
                }
                if (room < 0) {
                    blockDistricts = set;
                    blockParties = near;
                    return true;
                }
            }
            return false;
        }

        private static int partiesIn(Election election, int set) {
            int near = 0;
            for (int list = 0; list < LISTS; list++) {
                if ((set >> list / SIDE & 1) != 0 && election.counted[list] > 0) {
                    near |= 1 << list % SIDE;
                }
            }
            return near;
        }

        /** Each seat goes along the best ways from its district, which leaves no ring with a gain above 1. */
        private void fill(Election election, Shares shares) {
            Arrays.fill(first, 0);
            for (int d = 0; d < election.districts; d++) {
                for (int seat = 0; seat < election.size[d]; seat++) {
                    searchFrom(d, election.counted, first, 0);
                    search.goAlong(first, openParty(shares));
                }
            }
        }

        /** Any party that has not its share yet will do: in the end all have it. */
        private int openParty(Shares shares) {
            for (int p = 0; p < SIDE; p++) {
                if (partySum(first, p) < shares.given[p] && search.isReached(SIDE + p)) {
                    return SIDE + p;
                }
            }
            return Ways.NOWHERE;
        }

        /**
         * List by list, a ring with a gain of just 1 through this list and later ones gives it a seat more.
         * Once is enough: the numbers are the same for all tables that obey, and leave a list two values at most.
         */
        private void makeFirst(int[] votes) {
            for (int list = 0; list < LISTS; list++) {
                if (votes[list] > 0) {
                    int district = list / SIDE;
                    searchFrom(SIDE + list % SIDE, votes, first, list + 1);
                    if (search.above[district] * votes[list] == search.below[district] * (2 * first[list] + 1)) {
                        search.goAlong(first, district);
                        first[list]++;
                    }
                }
            }
        }

        /** As makeFirst, but a ring takes a seat from the list. */
        private void makeLast(int[] votes) {
            for (int list = 0; list < LISTS; list++) {
                if (last[list] > 0) {
                    int party = SIDE + list % SIDE;
                    searchFrom(list / SIDE, votes, last, list + 1);
                    if (search.above[party] * (2 * last[list] - 1) == search.below[party] * votes[list]) {
                        search.goAlong(last, party);
                        last[list]--;
                    }
                }
            }
        }

        private void searchFrom(int start, int[] votes, int[] table, int fromList) {
            search.clear();
            search.start(start);
            search.spread(votes, table, fromList);
        }

        private void findNumbers(Election election) {
            numbers.clear();
            for (int d = 0; d < election.districts; d++) {
                numbers.start(d);
            }
            numbers.spread(election.counted, first, 0);
            numbers.reduce();
        }
    }

    /**
     * The greatest products of factors of ways from some starts to each district (node 0 ..) and party (node SIDE ..).
     * The table must have no ring with a gain above 1: then no best chain of ways comes to a node twice, has
     * at most seven ways, and a product whose halves are below 500^4 * 41^4, which a long holds.
     */
    private static final class Ways {
        static final int NOWHERE = -1;
        private static final int NODES = 2 * SIDE;

        /** A node that is not reached has the product 0 / 1. */
        final long[] above = new long[NODES];
        final long[] below = new long[NODES];
        /** The node before each one on its best chain of ways, NOWHERE at a start. */
        private final int[] back = new int[NODES];

        void clear() {
            Arrays.fill(above, 0);
            Arrays.fill(below, 1);
            Arrays.fill(back, NOWHERE);
        }

        void start(int node) {
            above[node] = 1;
        }

        boolean isReached(int node) {
            return above[node] > 0;
        }

        /** Uses the ways of the lists from the given one on, round by round, until nothing grows. */
        void spread(int[] votes, int[] table, int fromList) {
            boolean grown = true;
            for (int round = 0; round < NODES && grown; round++) {
                grown = false;
                for (int list = fromList; list < LISTS; list++) {
                    if (votes[list] > 0 && spreadBy(list, votes[list], table[list])) {
                        grown = true;
                    }
                }
            }
        }

        private boolean spreadBy(int list, int votes, int seats) {
            int district = list / SIDE;
            int party = SIDE + list % SIDE;
            boolean partyGrows = step(district, party, votes, 2 * seats + 1);
            boolean districtGrows = seats > 0 && step(party, district, 2 * seats - 1, votes);
            return partyGrows || districtGrows;
        }

        private boolean step(int from, int to, int factorAbove, int factorBelow) {
            long a = above[from] * factorAbove;
            long b = below[from] * factorBelow;
            if (!Fractions.isGreater(a, b, above[to], below[to])) {
                return false;
            }
            above[to] = a;
            below[to] = b;
            back[to] = from;
            return true;
        }

        /** Moves a seat along the best chain of ways that ends at this node. */
        void goAlong(int[] table, int end) {
            int to = end;
            for (int k = 0; k < NODES && to != NOWHERE; k++) {
                int from = back[to];
                if (from != NOWHERE && from < SIDE) {
                    table[from * SIDE + to - SIDE]++;
                } else if (from != NOWHERE) {
                    table[to * SIDE + from - SIDE]--;
                }
                to = from;
            }
        }

        void reduce() {
            for (int node = 0; node < NODES; node++) {
                long divisor = Fractions.commonDivisor(above[node], below[node]);
                if (divisor > 1) {
                    above[node] /= divisor;
                    below[node] /= divisor;
                }
            }
        }
    }

    /** Looks for a ring with a gain above 1 by going through all there are. */
    private static final class Rings {
        private final int[] votes = new int[LISTS];
        private final int[] table = new int[LISTS];

        boolean anyGains(int[] itsVotes, int[] itsTable) {
            System.arraycopy(itsVotes, 0, votes, 0, LISTS);
            System.arraycopy(itsTable, 0, table, 0, LISTS);
            for (int start = 0; start < SIDE; start++) {
                // Every ring is found from its least district, so the ones up to the start count as used.
                if (gains(start, start, (2 << start) - 1, 0, 1, 1)) {
                    return true;
                }
            }
            return false;
        }

        /**
         * Whether the chain from the start to this district, its parts' product being above / below, goes on to
         * such a ring. A party is used up at each level, so there are at most four; the product stays below
         * 500^4 * 41^4, which a long holds.
         */
        private boolean gains(int start, int at, int usedDistricts, int usedParties, long above, long below) {
            if (Integer.bitCount(usedParties) >= SIDE) {
                return false;
            }
            for (int p = 0; p < SIDE; p++) {
                int list = at * SIDE + p;
                if ((usedParties >> p & 1) == 0 && votes[list] > 0) {
                    long a = above * votes[list];
                    long b = below * (2 * table[list] + 1);
                    if (at != start && closes(start, p, a, b)
                            || gainsBehind(start, p, usedDistricts, usedParties | 1 << p, a, b)) {
                        return true;
                    }
                }
            }
            return false;
        }

        private boolean closes(int start, int party, long above, long below) {
            int list = start * SIDE + party;
            return table[list] > 0 && above * (2 * table[list] - 1) > below * votes[list];
        }

        private boolean gainsBehind(int start, int party, int usedDistricts, int usedParties, long above, long below) {
            for (int d = 0; d < SIDE; d++) {
                int list = d * SIDE + party;
                if ((usedDistricts >> d & 1) == 0 && table[list] > 0
                        && gains(start, d, usedDistricts | 1 << d, usedParties,
                                above * (2 * table[list] - 1), below * votes[list])) {
                    return true;
                }
            }
            return false;
        }
    }

    private static final class Fractions {
        /** Above what Euclid's algorithm needs for any two longs. */
        private static final int MOST_DIVISIONS = 100;

        /**
         * Whether a / b > c / d, all being 0 or more. Compares whole parts, then the turned-over rests, since
         * the products a * d and b * c can be too great for a long; something / 0 is greater than all else.
         */
        static boolean isGreater(long a, long b, long c, long d) {
            for (int k = 0; k < MOST_DIVISIONS; k++) {
                if (d == 0) {
                    return false;
                }
                if (b == 0) {
                    return true;
                }
                long whole = a / b;
                long otherWhole = c / d;
                if (whole != otherWhole) {
                    return whole > otherWhole;
                }
                long rest = a - whole * b;
                long otherRest = c - otherWhole * d;
                a = d;
                c = b;
                b = otherRest;
                d = rest;
            }
            return false;
        }

        static long commonDivisor(long a, long b) {
            for (int k = 0; k < MOST_DIVISIONS && b != 0; k++) {
                long rest = a % b;
                a = b;
                b = rest;
            }
            return a;
        }
    }
}
