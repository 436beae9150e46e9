/**
 * Many made-up runs of calls, each answer held against the Reference. The votes come from kinds that are apt to
 * make ties, blocks, parties that are out, and products near the greatest there can be.
 */
public final class ReferenceTest {
    private static final int[][] KINDS = {
        {6, 6, 6, 6, 6, 6, 18},
        {1, 1, 1, 2, 3},
        {0, 0, 1, 1, 3},
        {0, 10, 30, 50, 90, 150, 210},
        {500, 499, 498, 497, 491, 487},
        {1, 500, 499, 2, 3, 0},
        {0, 0, 0, 7, 21, 35},
        {9, 15, 25, 27, 45, 75, 135, 225},
    };

    private final Dice dice;
    private final TwoWaySeats got = new TwoWaySeats();
    private final Reference want = new Reference();
    private final String run;
    private final int kind;
    private int calls = 0;

    private static int solves = 0;
    private static int ties = 0;
    private static int blocks = 0;
    private static int manyMoved = 0;
    private static final int[] verdicts = new int[5];

    /** Always the same throws. */
    private static final class Dice {
        private long state;

        Dice(long seed) {
            state = seed * 0x9E3779B97F4A7C15L + 0x1234567L;
        }

        int below(int n) {
            state = state * 6364136223846793005L + 1442695040888963407L;
            return (int) ((state >>> 33) % n);
        }
    }

    private ReferenceTest(int seed) {
        dice = new Dice(seed);
        run = "run " + seed;
        kind = dice.below(KINDS.length + 1);
        for (int k = 0; k < 10; k++) {
            dice.below(2);
        }
    }

    public static void main(String[] args) {
        for (int seed = 0; seed < 4000 && Check.wrongSoFar() < 20; seed++) {
            new ReferenceTest(seed).small();
        }
        for (int seed = 10000; seed < 10120 && Check.wrongSoFar() < 20; seed++) {
            new ReferenceTest(seed).large();
        }
        for (int seed = 20000; seed < 21000 && Check.wrongSoFar() < 20; seed++) {
            new ReferenceTest(seed).wild();
        }
        System.out.println(solves + " solved, " + ties + " with several tables, " + manyMoved + " with more than four, "
                + blocks + " with a block; verdicts " + java.util.Arrays.toString(verdicts));
        Check.compare("the runs meet several tables", "true", String.valueOf(ties > 200 && manyMoved > 50));
        Check.compare("the runs meet blocks", "true", String.valueOf(blocks > 200));
        for (int verdict : verdicts) {
            Check.compare("the runs meet each verdict", "true", String.valueOf(verdict > 50));
        }
        Check.end();
    }

    private void small() {
        build(9);
        look();
        change();
        look();
    }

    private void large() {
        build(20);
        look();
    }

    /** Calls in any order with arguments that are often wrong. */
    private void wild() {
        for (int k = 0; k < 160; k++) {
            switch (dice.below(12)) {
                case 0 -> district(dice.below(8) - 1);
                case 1 -> party();
                case 2 -> change();
                case 3 -> propose(dice.below(6) - 1, dice.below(6) - 1, dice.below(24) - 1);
                case 4 -> judge();
                case 5 -> solve();
                case 6, 7, 8 -> askSome();
                case 9 -> share(dice.below(6) - 1);
                case 10 -> tied(dice.below(6) - 1);
                default -> votes(dice.below(5) - 1, dice.below(5) - 1, someVotes());
            }
        }
    }

    private void build(int mostSeats) {
        int districts = 1 + dice.below(4);
        int parties = 1 + dice.below(4);
        int left = mostSeats;
        for (int d = 0; d < districts; d++) {
            int seats = 1 + dice.below(Math.max(1, 2 * left / (districts - d) - 1));
            seats = Math.max(1, Math.min(seats, left - (districts - d - 1)));
            left -= seats;
            district(seats);
        }
        for (int p = 0; p < parties; p++) {
            party();
        }
        for (int d = 0; d < districts; d++) {
            for (int p = 0; p < parties; p++) {
                votes(d, p, someVotes());
            }
        }
    }

    private int someVotes() {
        return kind == KINDS.length ? dice.below(501) : KINDS[kind][dice.below(KINDS[kind].length)];
    }

    private void change() {
        switch (dice.below(6)) {
            case 0 -> weigh(dice.below(2) == 0);
            case 1 -> threshold(dice.below(3) == 0 ? dice.below(1100) - 50 : dice.below(200));
            case 2, 3 -> lot(dice.below(6) - 1, dice.below(5) - 1);
            default -> votes(dice.below(4), dice.below(4), someVotes());
        }
    }

    /** Asks all that can be asked. */
    private void look() {
        for (int p = -1; p <= 4; p++) {
            share(p);
            tied(p);
        }
        judge();
        askSome();
        solve();
        askSolved();
        proposeSome();
        askSome();
    }

    private void askSome() {
        unique();
        seats(dice.below(6) - 1, dice.below(6) - 1, dice.below(2) == 0);
        number(dice.below(2) == 0, dice.below(6) - 1);
        blocks(dice.below(2) == 0, dice.below(6) - 1);
    }

    private void askSolved() {
        unique();
        for (int d = -1; d <= 4; d++) {
            for (int p = -1; p <= 4; p++) {
                seats(d, p, false);
                seats(d, p, true);
            }
        }
        for (int k = -1; k <= 4; k++) {
            number(false, k);
            number(true, k);
            blocks(false, k);
            blocks(true, k);
        }
    }

    /** Proposes tables that obey, then one that is near such a table. */
    private void proposeSome() {
        if (want.howManyObey() == 0) {
            propose(dice.below(4), dice.below(4), dice.below(4));
            judge();
            return;
        }
        int[][] table = want.table(dice.below(want.howManyObey()));
        for (int d = 0; d < table.length; d++) {
            for (int p = 0; p < table[d].length; p++) {
                propose(d, p, table[d][p]);
            }
        }
        judge();
        for (int k = 0; k < 6; k++) {
            moveAround(table);
            judge();
        }
        propose(dice.below(table.length), dice.below(table[0].length), dice.below(4));
        judge();
    }

    private void moveAround(int[][] table) {
        int d1 = dice.below(table.length);
        int d2 = dice.below(table.length);
        int p1 = dice.below(table[0].length);
        int p2 = dice.below(table[0].length);
        if (d1 != d2 && p1 != p2 && table[d2][p1] > 0 && table[d1][p2] > 0) {
            table = new int[][] {table[d1].clone(), table[d2].clone()};
            propose(d1, p1, table[0][p1] + 1);
            propose(d1, p2, table[0][p2] - 1);
            propose(d2, p1, table[1][p1] - 1);
            propose(d2, p2, table[1][p2] + 1);
        }
    }

    /** An object is used for at most 512 calls, so a run that needs more is a fault of this test. */
    private String name(String call) {
        calls++;
        if (calls == 513) {
            Check.compare(run + " has more than 512 calls", "false", "true");
        }
        return run + ", call " + calls + ": " + call;
    }

    private void district(int seats) {
        both("district(" + seats + ")", () -> got.district(seats), () -> want.district(seats));
    }

    private void party() {
        both("party()", got::party, want::party);
        both("count(true)", () -> got.count(true), () -> want.count(true));
        both("count(false)", () -> got.count(false), () -> want.count(false));
    }

    private void votes(int d, int p, int n) {
        bothAct("votes(" + d + ", " + p + ", " + n + ")", () -> got.votes(d, p, n), () -> want.votes(d, p, n));
    }

    private void weigh(boolean on) {
        bothAct("weigh(" + on + ")", () -> got.weigh(on), () -> want.weigh(on));
    }

    private void threshold(int n) {
        bothAct("threshold(" + n + ")", () -> got.threshold(n), () -> want.threshold(n));
    }

    private void lot(int position, int p) {
        bothAct("lot(" + position + ", " + p + ")", () -> got.lot(position, p), () -> want.lot(position, p));
    }

    private void share(int p) {
        both("share(" + p + ")", () -> got.share(p), () -> want.share(p));
    }

    private void tied(int p) {
        both("tied(" + p + ")", () -> got.tied(p), () -> want.tied(p));
    }

    private void solve() {
        String due = both("solve()", got::solve, want::solve);
        if (due.equals("true")) {
            solves++;
            ties += want.howManyObey() > 1 ? 1 : 0;
            manyMoved += want.howManyObey() > 4 ? 1 : 0;
        } else if (due.equals("false")) {
            blocks++;
        }
    }

    private void seats(int d, int p, boolean last) {
        both("seats(" + d + ", " + p + ", " + last + ")", () -> got.seats(d, p, last), () -> want.seats(d, p, last));
    }

    private void unique() {
        both("unique()", got::unique, want::unique);
    }

    private void number(boolean party, int k) {
        String call = "number(" + party + ", " + k + ", ";
        both(call + "false)", () -> got.number(party, k, false), () -> want.number(party, k, false));
        both(call + "true)", () -> got.number(party, k, true), () -> want.number(party, k, true));
    }

    private void blocks(boolean party, int k) {
        both("blocks(" + party + ", " + k + ")", () -> got.blocks(party, k), () -> want.blocks(party, k));
    }

    private void propose(int d, int p, int n) {
        bothAct("propose(" + d + ", " + p + ", " + n + ")", () -> got.propose(d, p, n), () -> want.propose(d, p, n));
    }

    private void judge() {
        String due = both("judge()", got::judge, want::judge);
        if (due.length() == 1) {
            verdicts[due.charAt(0) - '0']++;
        }
    }

    private String both(String call, Check.Call ours, Check.Call theirs) {
        String due = Check.answer(theirs);
        Check.compare(name(call), due, Check.answer(ours));
        return due;
    }

    private void bothAct(String call, Check.Act ours, Check.Act theirs) {
        Check.compare(name(call), Check.answer(theirs), Check.answer(ours));
    }
}
