/** Promises 11 to 15: solve, seats, unique, number and blocks. */
public final class SolveTest {
    private static final int[] BEYOND = {Integer.MIN_VALUE, -1, 2, 4, Integer.MAX_VALUE};

    public static void main(String[] args) {
        ordinary();
        ties();
        longTies();
        numbers();
        numberOfNoParty();
        greatNumbers();
        block();
        leastBlock();
        blockWithoutShare();
        nothingToShare();
        refuses();
        whatEndsIt();
        whatEndsNothing();
        Check.end();
    }

    private static TwoWaySeats northAndSouth() {
        return Parliament.of(new int[] {3, 2}, new int[][] {{120, 80}, {40, 90}});
    }

    private static void ordinary() {
        TwoWaySeats x = northAndSouth();
        Check.due("11: solve", true, x::solve);
        Check.due("12: first", "2 1 / 0 2", () -> Parliament.table(x, false));
        Check.due("12: last", "2 1 / 0 2", () -> Parliament.table(x, true));
        Check.due("13: unique", true, x::unique);
        Check.due("14: north", "1/1", () -> Parliament.number(x, false, 0));
        Check.due("14: south", "1/1", () -> Parliament.number(x, false, 1));
        Check.due("14: red", "40/1", () -> Parliament.number(x, true, 0));
        Check.due("14: blue", "80/3", () -> Parliament.number(x, true, 1));
        Check.due("15: no block", Check.STATE, () -> x.blocks(false, 0));
        Check.due("11: again", true, x::solve);
        Check.due("12: first again", "2 1 / 0 2", () -> Parliament.table(x, false));
        TwoWaySeats whole = Parliament.single(20, 500);
        Check.due("11: one list", true, whole::solve);
        Check.due("12: one list has all", "20", () -> Parliament.table(whole, true));
        Check.due("14: one list", "500/41", () -> Parliament.number(whole, true, 0));
    }

    private static void ties() {
        TwoWaySeats x = Parliament.of(new int[] {1, 1}, new int[][] {{10, 10}, {10, 10}});
        Check.due("11: a tie", true, x::solve);
        Check.due("12: first of two", "1 0 / 0 1", () -> Parliament.table(x, false));
        Check.due("12: last of two", "0 1 / 1 0", () -> Parliament.table(x, true));
        Check.due("13: not unique", false, x::unique);
        Check.due("14: in the first", "10/1", () -> Parliament.number(x, true, 0));
        TwoWaySeats all = Parliament.of(new int[] {1, 1, 1, 1},
                new int[][] {{3, 3, 3, 3}, {3, 3, 3, 3}, {3, 3, 3, 3}, {3, 3, 3, 3}});
        Check.due("11: 24 tables", true, all::solve);
        Check.due("12: first of 24", "1 0 0 0 / 0 1 0 0 / 0 0 1 0 / 0 0 0 1", () -> Parliament.table(all, false));
        Check.due("12: last of 24", "0 0 0 1 / 0 0 1 0 / 0 1 0 0 / 1 0 0 0", () -> Parliament.table(all, true));
        TwoWaySeats even = Parliament.of(new int[] {2, 2}, new int[][] {{10, 10}, {10, 10}});
        even.solve();
        Check.due("13: even seats have no tie", true, even::unique);
    }

    /** Two tables that only a ring of all four districts joins. */
    private static void longTies() {
        TwoWaySeats x = Parliament.of(new int[] {1, 1, 1, 1},
                new int[][] {{6, 6, 0, 0}, {0, 6, 6, 0}, {0, 0, 6, 6}, {6, 0, 0, 6}});
        Check.due("11: a ring of four", true, x::solve);
        Check.due("12: first", "1 0 0 0 / 0 1 0 0 / 0 0 1 0 / 0 0 0 1", () -> Parliament.table(x, false));
        Check.due("12: last", "0 1 0 0 / 0 0 1 0 / 0 0 0 1 / 1 0 0 0", () -> Parliament.table(x, true));
        Check.due("13: not unique", false, x::unique);
        x.votes(3, 0, 7);
        x.solve();
        Check.due("12: only one left", "0 1 0 0 / 0 0 1 0 / 0 0 0 1 / 1 0 0 0", () -> Parliament.table(x, false));
        Check.due("13: unique", true, x::unique);
        // The ring's gain is 50117727616 / 50117727615.
        TwoWaySeats near = Parliament.of(new int[] {1, 1, 1, 1},
                new int[][] {{445, 463, 0, 0}, {0, 471, 464, 0}, {0, 0, 487, 482}, {484, 0, 0, 491}});
        Check.due("11: nearly a tie", true, near::solve);
        Check.due("12: nearly a tie", "0 1 0 0 / 0 0 1 0 / 0 0 0 1 / 1 0 0 0", () -> Parliament.table(near, false));
        Check.due("13: nearly a tie", true, near::unique);
    }

    private static void numbers() {
        // From district 1 to the party 30 / 3, from there to district 0 by 3 / 20.
        TwoWaySeats x = Parliament.of(new int[] {2, 1}, new int[][] {{20}, {30}});
        Check.due("11: one party", true, x::solve);
        Check.due("14: above", 3L, () -> x.number(false, 0, false));
        Check.due("14: below", 2L, () -> x.number(false, 0, true));
        Check.due("14: no way is 1", "1/1", () -> Parliament.number(x, false, 1));
        Check.due("14: lowest terms", "10/1", () -> Parliament.number(x, true, 0));
    }

    private static void numberOfNoParty() {
        TwoWaySeats x = Parliament.single(3, 100, 1, 0);
        x.solve();
        Check.due("14: with a seat", "100/7", () -> Parliament.number(x, true, 0));
        Check.due("14: votes, but no seat", "1/1", () -> Parliament.number(x, true, 1));
        Check.due("14: no votes, above", Check.NO_ELEMENT, () -> x.number(true, 2, false));
        Check.due("14: no votes, below", Check.NO_ELEMENT, () -> x.number(true, 2, true));
        Check.due("14: no such party", Check.INDEX, () -> x.number(true, 3, true));
        x.threshold(100);
        x.solve();
        Check.due("14: out", Check.NO_ELEMENT, () -> x.number(true, 1, false));
        Check.due("14: not out", "100/7", () -> Parliament.number(x, true, 0));
    }

    /** A chain through all districts and parties: a ring would close it, but the last list has no votes. */
    private static void greatNumbers() {
        TwoWaySeats x = Parliament.of(new int[] {5, 5, 5, 5},
                new int[][] {{499, 241, 0, 0}, {0, 251, 239, 0}, {0, 0, 257, 263}, {0, 0, 0, 233}});
        Check.due("11: a chain", true, x::solve);
        Check.due("12: a chain", "5 0 0 0 / 0 5 0 0 / 0 0 5 0 / 0 0 0 5", () -> Parliament.table(x, false));
        Check.due("14: party 0", "499/11", () -> Parliament.number(x, true, 0));
        Check.due("14: party 1", "241/1", () -> Parliament.number(x, true, 1));
        // 241 * 9 / 251, times 239, and so on.
        Check.due("14: district 1", "2169/251", () -> Parliament.number(x, false, 1));
        Check.due("14: party 2", "518391/251", () -> Parliament.number(x, true, 2));
        Check.due("14: district 2", "4665519/64507", () -> Parliament.number(x, false, 2));
        Check.due("14: party 3", "1227031497/64507", () -> Parliament.number(x, true, 3));
        Check.due("14: district 3", "11043283473/15030131", () -> Parliament.number(x, false, 3));
    }

    private static void block() {
        TwoWaySeats x = Parliament.of(new int[] {2, 3}, new int[][] {{10, 0}, {0, 500}});
        Check.due("9: shares", "0 5", () -> Parliament.shares(x));
        Check.due("11: none fits", false, x::solve);
        Check.due("15: block", "10 10", () -> Parliament.block(x));
        Check.due("12: no table", Check.STATE, () -> x.seats(0, 0, false));
        Check.due("12: no table, no such district", Check.STATE, () -> x.seats(5, 0, true));
        Check.due("13: no table", Check.STATE, x::unique);
        Check.due("14: no table", Check.STATE, () -> x.number(false, 0, false));
        Check.due("14: no table, no such party", Check.STATE, () -> x.number(true, 9, false));
        Check.due("11: again", false, x::solve);
        Check.due("15: block again", "10 10", () -> Parliament.block(x));
        TwoWaySeats empty = Parliament.of(new int[] {2, 3}, new int[][] {{10, 10}, {0, 0}});
        empty.solve();
        Check.due("15: a district without votes", "01 00", () -> Parliament.block(empty));
        TwoWaySeats out = Parliament.of(new int[] {1, 3}, new int[][] {{10, 0}, {0, 90}});
        Check.due("11: not out", false, out::solve);
        Check.due("15: not out", "10 10", () -> Parliament.block(out));
        out.threshold(101);
        Check.due("11: out", false, out::solve);
        Check.due("15: out, so its list has no votes", "10 00", () -> Parliament.block(out));
    }

    private static void leastBlock() {
        // Neither district 0 nor 1 has too many seats, but both together, and district 2 has.
        TwoWaySeats x = Parliament.of(new int[] {1, 1, 3, 1},
                new int[][] {{60, 0, 0}, {60, 0, 0}, {0, 120, 0}, {0, 0, 500}});
        Check.due("9: shares", "1 1 4", () -> Parliament.shares(x));
        Check.due("11: none fits", false, x::solve);
        Check.due("15: districts 0 and 1 before 2", "1100 100", () -> Parliament.block(x));
        TwoWaySeats y = Parliament.of(new int[] {1, 2, 2}, new int[][] {{500, 0}, {0, 1}, {0, 1}});
        y.solve();
        Check.due("15: district 1 before 2", "010 01", () -> Parliament.block(y));
    }

    private static void blockWithoutShare() {
        TwoWaySeats x = Parliament.of(new int[] {2, 3}, new int[][] {{10, 0, 1}, {0, 500, 0}});
        Check.due("11: none fits", false, x::solve);
        Check.due("15: a party with votes, but no share", "10 101", () -> Parliament.block(x));
    }

    private static void nothingToShare() {
        TwoWaySeats x = new TwoWaySeats();
        Check.due("11: nothing", Check.STATE, x::solve);
        x.district(1);
        Check.due("11: no party", Check.STATE, x::solve);
        x.party();
        Check.due("11: no votes", Check.STATE, x::solve);
        Check.due("12: not solved", Check.STATE, () -> x.seats(0, 0, false));
        Check.due("15: not solved", Check.STATE, () -> x.blocks(false, 0));
        x.votes(0, 0, 1);
        Check.due("12: still not solved", Check.STATE, () -> x.seats(0, 0, false));
        Check.due("11: a vote", true, x::solve);
        Check.due("12: solved", "1", () -> Parliament.table(x, false));
    }

    private static void refuses() {
        TwoWaySeats x = northAndSouth();
        TwoWaySeats blocked = Parliament.of(new int[] {2, 3}, new int[][] {{10, 0}, {0, 500}});
        Check.due("12: not solved, no such district", Check.STATE, () -> x.seats(9, 0, false));
        Check.due("15: not solved, no such district", Check.STATE, () -> x.blocks(false, 9));
        x.solve();
        blocked.solve();
        for (int k : BEYOND) {
            Check.due("12: district " + k, Check.INDEX, () -> x.seats(k, 0, false));
            Check.due("12: party " + k, Check.INDEX, () -> x.seats(0, k, true));
            Check.due("14: district " + k, Check.INDEX, () -> x.number(false, k, false));
            Check.due("14: party " + k, Check.INDEX, () -> x.number(true, k, false));
            Check.due("15: district " + k, Check.INDEX, () -> blocked.blocks(false, k));
            Check.due("15: party " + k, Check.INDEX, () -> blocked.blocks(true, k));
            Check.due("15: a table fits, whatever district", Check.STATE, () -> x.blocks(false, k));
        }
        // Three districts and one party: each index has its own bound.
        TwoWaySeats y = Parliament.of(new int[] {1, 1, 1}, new int[][] {{1}, {1}, {1}});
        y.solve();
        Check.due("14: district 2", "1/1", () -> Parliament.number(y, false, 2));
        Check.due("14: no party 1", Check.INDEX, () -> y.number(true, 1, false));
    }

    private static void ends(String what, Change change) {
        TwoWaySeats x = northAndSouth();
        x.solve();
        change.on(x);
        Check.due("12: ended by " + what, Check.STATE, () -> x.seats(0, 0, false));
        Check.due("13: ended by " + what, Check.STATE, x::unique);
        Check.due("14: ended by " + what, Check.STATE, () -> x.number(true, 0, false));
        TwoWaySeats blocked = Parliament.of(new int[] {2, 3}, new int[][] {{10, 0}, {0, 500}});
        blocked.solve();
        change.on(blocked);
        Check.due("15: ended by " + what, Check.STATE, () -> blocked.blocks(false, 0));
    }

    private interface Change {
        void on(TwoWaySeats x);
    }

    private static void whatEndsIt() {
        ends("district", x -> x.district(1));
        ends("party", TwoWaySeats::party);
        ends("votes", x -> x.votes(0, 0, 121));
        ends("the same votes", x -> x.votes(1, 0, 0));
        ends("weigh", x -> x.weigh(true));
        ends("weigh as before", x -> x.weigh(false));
        ends("threshold", x -> x.threshold(1));
        ends("threshold as before", x -> x.threshold(0));
        ends("lot", x -> x.lot(0, 1));
        TwoWaySeats x = northAndSouth();
        x.lot(0, 1);
        x.solve();
        x.lot(0, 1);
        Check.due("12: ended by the lot as before", Check.STATE, () -> x.seats(0, 0, false));
        x.solve();
        x.votes(0, 0, 120);
        Check.due("12: ended by votes as before", Check.STATE, () -> x.seats(0, 0, false));
    }

    private static void whatEndsNothing() {
        TwoWaySeats x = northAndSouth();
        x.solve();
        Check.due("a district too great", Check.ARGUMENT, () -> x.district(16));
        Check.dueAct("votes of no list", Check.INDEX, () -> x.votes(2, 0, 1));
        Check.dueAct("too many votes", Check.ARGUMENT, () -> x.votes(0, 0, 501));
        Check.dueAct("a threshold too great", Check.ARGUMENT, () -> x.threshold(1001));
        Check.dueAct("a lot of no party", Check.INDEX, () -> x.lot(0, 2));
        Check.dueAct("a lot of no position", Check.INDEX, () -> x.lot(4, 0));
        Check.dueAct("a proposal", Check.NOTHING, () -> x.propose(0, 0, 20));
        Check.dueAct("a proposal of no list", Check.INDEX, () -> x.propose(0, 2, 20));
        Check.due("a verdict", 2, x::judge);
        Check.due("a share", 2, () -> x.share(0));
        Check.due("a tie", false, () -> x.tied(0));
        Check.due("a count", 2, () -> x.count(true));
        Check.due("12: not ended", "2 1 / 0 2", () -> Parliament.table(x, false));
        TwoWaySeats full = Parliament.of(new int[] {1, 1, 1, 1},
                new int[][] {{1, 1, 1, 1}, {1, 1, 1, 1}, {1, 1, 1, 1}, {1, 1, 1, 1}});
        full.solve();
        Check.due("a fifth district", Check.UNSUPPORTED, () -> full.district(1));
        Check.due("a fifth party", Check.UNSUPPORTED, full::party);
        Check.due("12: not ended by these", 1, () -> full.seats(0, 0, false));
    }
}
