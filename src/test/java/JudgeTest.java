/** Promises 16 and 17: propose and judge. */
public final class JudgeTest {
    public static void main(String[] args) {
        ordinary();
        leastVerdict();
        longRings();
        ties();
        out();
        refuses();
        nothingToShare();
        Check.end();
    }

    private static TwoWaySeats northAndSouth() {
        return Parliament.of(new int[] {3, 2}, new int[][] {{120, 80}, {40, 90}});
    }

    private static void verdict(String what, int want, TwoWaySeats x, int[][] table) {
        Parliament.propose(x, table);
        Check.due("17: " + what, want, x::judge);
    }

    private static void ordinary() {
        TwoWaySeats x = northAndSouth();
        Check.due("16: no seats at first", 2, x::judge);
        verdict("it obeys", 0, x, new int[][] {{2, 1}, {0, 2}});
        verdict("it only fits", 4, x, new int[][] {{1, 2}, {1, 1}});
        verdict("it only fits, farther away", 4, x, new int[][] {{0, 3}, {2, 0}});
        verdict("wrong districts", 2, x, new int[][] {{1, 1}, {1, 2}});
        verdict("wrong parties", 3, x, new int[][] {{2, 1}, {1, 1}});
        verdict("a district too many", 2, x, new int[][] {{20, 20}, {20, 20}});
        x.party();
        verdict("a list without votes", 1, x, new int[][] {{2, 0, 1}, {0, 2, 0}});
        verdict("the new party has none", 0, x, new int[][] {{2, 1, 0}, {0, 2, 0}});
    }

    private static void leastVerdict() {
        TwoWaySeats x = Parliament.of(new int[] {3, 2}, new int[][] {{120, 80}, {0, 90}});
        Check.due("9: shares", "2 3", () -> Parliament.shares(x));
        verdict("no votes, wrong district, wrong party", 1, x, new int[][] {{0, 0}, {1, 0}});
        verdict("no votes, right sums", 1, x, new int[][] {{1, 2}, {1, 1}});
        verdict("wrong district, wrong party", 2, x, new int[][] {{0, 0}, {0, 1}});
        verdict("wrong second district", 2, x, new int[][] {{2, 1}, {0, 1}});
        verdict("wrong parties", 3, x, new int[][] {{3, 0}, {0, 2}});
        verdict("it obeys", 0, x, new int[][] {{2, 1}, {0, 2}});
    }

    private static void longRings() {
        TwoWaySeats three = Parliament.of(new int[] {1, 1, 1}, new int[][] {{1, 2, 0}, {0, 1, 2}, {2, 0, 1}});
        verdict("a ring of three", 4, three, new int[][] {{1, 0, 0}, {0, 1, 0}, {0, 0, 1}});
        verdict("no ring of three", 0, three, new int[][] {{0, 1, 0}, {0, 0, 1}, {1, 0, 0}});
        TwoWaySeats four = Parliament.of(new int[] {1, 1, 1, 1},
                new int[][] {{1, 2, 0, 0}, {0, 1, 2, 0}, {0, 0, 1, 2}, {2, 0, 0, 1}});
        verdict("a ring of four", 4, four, new int[][] {{1, 0, 0, 0}, {0, 1, 0, 0}, {0, 0, 1, 0}, {0, 0, 0, 1}});
        verdict("no ring of four", 0, four, new int[][] {{0, 1, 0, 0}, {0, 0, 1, 0}, {0, 0, 0, 1}, {1, 0, 0, 0}});
        // The gain is 50117727616 / 50117727615.
        TwoWaySeats near = Parliament.of(new int[] {1, 1, 1, 1},
                new int[][] {{445, 463, 0, 0}, {0, 471, 464, 0}, {0, 0, 487, 482}, {484, 0, 0, 491}});
        Check.due("9: shares", "1 1 1 1", () -> Parliament.shares(near));
        verdict("a small gain", 4, near, new int[][] {{1, 0, 0, 0}, {0, 1, 0, 0}, {0, 0, 1, 0}, {0, 0, 0, 1}});
        verdict("no gain", 0, near, new int[][] {{0, 1, 0, 0}, {0, 0, 1, 0}, {0, 0, 0, 1}, {1, 0, 0, 0}});
        TwoWaySeats last = Parliament.of(new int[] {1, 1, 1}, new int[][] {{5, 0, 0}, {0, 1, 2}, {0, 2, 1}});
        verdict("a ring without district 0", 4, last, new int[][] {{1, 0, 0}, {0, 1, 0}, {0, 0, 1}});
        verdict("no ring without district 0", 0, last, new int[][] {{1, 0, 0}, {0, 0, 1}, {0, 1, 0}});
    }

    private static void ties() {
        TwoWaySeats x = Parliament.of(new int[] {1, 1}, new int[][] {{10, 10}, {10, 10}});
        verdict("the first", 0, x, new int[][] {{1, 0}, {0, 1}});
        verdict("the last", 0, x, new int[][] {{0, 1}, {1, 0}});
        x.votes(0, 0, 11);
        verdict("the last no more", 4, x, new int[][] {{0, 1}, {1, 0}});
        x.votes(0, 0, 9);
        Check.due("9: shares", "1 1", () -> Parliament.shares(x));
        Check.due("17: the proposal stays", 0, x::judge);
        TwoWaySeats three = Parliament.of(new int[] {1, 1, 1}, new int[][] {{4, 4, 4}, {4, 4, 4}, {4, 4, 4}});
        verdict("neither the first nor the last", 0, three, new int[][] {{0, 1, 0}, {1, 0, 0}, {0, 0, 1}});
    }

    private static void out() {
        TwoWaySeats x = Parliament.single(4, 10, 30);
        verdict("in", 0, x, new int[][] {{1, 3}});
        x.threshold(251);
        Check.due("17: out", 1, x::judge);
        verdict("all to the other one", 0, x, new int[][] {{0, 4}});
        x.threshold(0);
        Check.due("17: in again", 3, x::judge);
    }

    private static void refuses() {
        TwoWaySeats x = northAndSouth();
        Parliament.propose(x, new int[][] {{2, 1}, {0, 2}});
        for (int k : new int[] {Integer.MIN_VALUE, -1, 2, 4, Integer.MAX_VALUE}) {
            Check.dueAct("16: district " + k, Check.INDEX, () -> x.propose(k, 0, 1));
            Check.dueAct("16: party " + k, Check.INDEX, () -> x.propose(0, k, 1));
            Check.dueAct("16: district " + k + " and seats", Check.INDEX, () -> x.propose(k, 0, 21));
        }
        for (int n : new int[] {Integer.MIN_VALUE, -1, 21, Integer.MAX_VALUE}) {
            Check.dueAct("16: seats " + n, Check.ARGUMENT, () -> x.propose(0, 0, n));
        }
        Check.due("16: as before", 0, x::judge);
        TwoWaySeats whole = Parliament.single(20, 500, 1);
        Check.dueAct("16: the most", Check.NOTHING, () -> whole.propose(0, 0, 20));
        Check.due("17: the most", 0, whole::judge);
        Check.dueAct("16: the least", Check.NOTHING, () -> whole.propose(0, 0, 0));
        Check.due("17: the least", 2, whole::judge);
    }

    private static void nothingToShare() {
        TwoWaySeats x = Parliament.single(1, 5);
        x.propose(0, 0, 1);
        Check.due("17: not solved", 0, x::judge);
        x.votes(0, 0, 0);
        Check.due("17: nothing to share", Check.STATE, x::judge);
        TwoWaySeats none = new TwoWaySeats();
        none.party();
        Check.due("17: no district", Check.STATE, none::judge);
    }
}
