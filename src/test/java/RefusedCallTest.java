import java.util.function.Consumer;

/**
 * "A call that throws changes nothing; where several exceptions that a call names fit, it is the one that it names
 * first." For each call, each exception and each pair of them: the exception, and that an object with the refused
 * call answers as a twin without it, now and after going on.
 */
public final class RefusedCallTest {
    private interface Maker {
        TwoWaySeats make();
    }

    private interface Use {
        Object of(TwoWaySeats x);
    }

    public static void main(String[] args) {
        Check.due("the object made by table() is solved", true, () -> table().unique());
        Check.due("the object made by block() is solved", "100 10", () -> Parliament.block(block()));
        district();
        party();
        votes();
        threshold();
        lot();
        nothingToShare();
        notSolved();
        noSuch();
        noNumber();
        noBlock();
        propose();
        Check.end();
    }

    /** Solved, with a table; the shares hang on the positions, on the threshold and on the weighing. */
    private static TwoWaySeats table() {
        TwoWaySeats x = Parliament.of(new int[] {2, 1}, new int[][] {{20, 20, 1}, {10, 10, 0}});
        x.weigh(true);
        x.threshold(20);
        x.lot(0, 1);
        x.lot(2, 0);
        x.propose(0, 0, 1);
        x.propose(0, 1, 1);
        x.propose(1, 1, 1);
        x.solve();
        return x;
    }

    /** Solved, with a block. */
    private static TwoWaySeats block() {
        TwoWaySeats x = Parliament.of(new int[] {2, 1, 1}, new int[][] {{1, 0}, {0, 100}, {0, 100}});
        x.lot(1, 1);
        x.propose(0, 0, 2);
        x.solve();
        return x;
    }

    private static TwoWaySeats unsolved() {
        TwoWaySeats x = table();
        x.lot(2, 0);
        return x;
    }

    /** Solved, four districts, four parties and seats left. */
    private static TwoWaySeats full() {
        TwoWaySeats x = Parliament.of(new int[] {1, 2, 1, 1},
                new int[][] {{5, 5, 5, 5}, {5, 5, 5, 5}, {5, 5, 5, 5}, {5, 5, 5, 5}});
        x.lot(3, 2);
        x.solve();
        return x;
    }

    /** There are votes, but all parties are out. */
    private static TwoWaySeats allOut() {
        TwoWaySeats x = unsolved();
        x.threshold(1000);
        return x;
    }

    private static TwoWaySeats fresh() {
        return new TwoWaySeats();
    }

    private static void refused(String call, String want, Maker maker, Use use) {
        TwoWaySeats x = maker.make();
        TwoWaySeats twin = maker.make();
        Check.due(call, want, () -> use.of(x));
        Check.due(call + " changes nothing", Parliament.everything(twin), () -> Parliament.everything(x));
        Check.due(call + ", then going on", goneOn(twin), () -> goneOn(x));
    }

    private static void refusedAct(String call, String want, Maker maker, Consumer<TwoWaySeats> act) {
        refused(call, want, maker, x -> {
            act.accept(x);
            return Check.NOTHING;
        });
    }

    /** What is hidden at first comes to light: votes and seats of lists to come, positions, the threshold. */
    private static String goneOn(TwoWaySeats x) {
        StringBuilder text = new StringBuilder();
        text.append(Check.answer(x::party)).append(' ').append(Check.answer(() -> x.district(1)));
        text.append(' ').append(Parliament.everything(x));
        text.append(' ').append(Check.answer(() -> x.lot(3, 0)));
        text.append(' ').append(Check.answer(x::solve));
        text.append(' ').append(Parliament.everything(x));
        text.append(' ').append(Check.answer(() -> x.votes(0, 1, 10)));
        text.append(' ').append(Check.answer(() -> x.votes(1, 2, 10)));
        text.append(' ').append(Check.answer(() -> x.threshold(0)));
        text.append(' ').append(Check.answer(x::solve));
        text.append(' ').append(Parliament.everything(x));
        return text.toString();
    }

    private static void district() {
        for (int seats : new int[] {-1, 0, 18, 21, Integer.MAX_VALUE}) {
            refused("district(" + seats + ")", Check.ARGUMENT, RefusedCallTest::table, x -> x.district(seats));
        }
        refused("district(17)", Check.ARGUMENT, RefusedCallTest::block, x -> x.district(17));
        refused("a fifth district(15)", Check.UNSUPPORTED, RefusedCallTest::full, x -> x.district(15));
        refused("a fifth district(1)", Check.UNSUPPORTED, RefusedCallTest::full, x -> x.district(1));
        refused("a fifth district(16)", Check.ARGUMENT, RefusedCallTest::full, x -> x.district(16));
        refused("a fifth district(0)", Check.ARGUMENT, RefusedCallTest::full, x -> x.district(0));
        refused("a fifth district(21)", Check.ARGUMENT, RefusedCallTest::full, x -> x.district(21));
    }

    private static void party() {
        refused("a fifth party()", Check.UNSUPPORTED, RefusedCallTest::full, TwoWaySeats::party);
    }

    private static void votes() {
        refusedAct("votes(2, 0, 9)", Check.INDEX, RefusedCallTest::table, x -> x.votes(2, 0, 9));
        refusedAct("votes(0, 3, 9)", Check.INDEX, RefusedCallTest::table, x -> x.votes(0, 3, 9));
        refusedAct("votes(-1, 3, 9)", Check.INDEX, RefusedCallTest::table, x -> x.votes(-1, 3, 9));
        refusedAct("votes(1, -1, 9)", Check.INDEX, RefusedCallTest::table, x -> x.votes(1, -1, 9));
        refusedAct("votes(0, 4, 9)", Check.INDEX, RefusedCallTest::full, x -> x.votes(0, 4, 9));
        refusedAct("votes(4, 0, 9)", Check.INDEX, RefusedCallTest::full, x -> x.votes(4, 0, 9));
        refusedAct("votes(2, 0, 501)", Check.INDEX, RefusedCallTest::table, x -> x.votes(2, 0, 501));
        refusedAct("votes(0, 3, -1)", Check.INDEX, RefusedCallTest::table, x -> x.votes(0, 3, -1));
        refusedAct("votes(0, 0, 501)", Check.ARGUMENT, RefusedCallTest::table, x -> x.votes(0, 0, 501));
        refusedAct("votes(0, 0, -1)", Check.ARGUMENT, RefusedCallTest::block, x -> x.votes(0, 0, -1));
        refusedAct("votes(0, 0, 0)", Check.INDEX, RefusedCallTest::fresh, x -> x.votes(0, 0, 0));
    }

    private static void threshold() {
        for (int n : new int[] {-1, 1001, Integer.MAX_VALUE, Integer.MIN_VALUE}) {
            refusedAct("threshold(" + n + ")", Check.ARGUMENT, RefusedCallTest::table, x -> x.threshold(n));
            refusedAct("threshold(" + n + ")", Check.ARGUMENT, RefusedCallTest::block, x -> x.threshold(n));
        }
    }

    private static void lot() {
        refusedAct("lot(4, 1)", Check.INDEX, RefusedCallTest::table, x -> x.lot(4, 1));
        refusedAct("lot(-1, 1)", Check.INDEX, RefusedCallTest::table, x -> x.lot(-1, 1));
        refusedAct("lot(0, 3)", Check.INDEX, RefusedCallTest::table, x -> x.lot(0, 3));
        refusedAct("lot(0, -1)", Check.INDEX, RefusedCallTest::table, x -> x.lot(0, -1));
        refusedAct("lot(0, 4)", Check.INDEX, RefusedCallTest::full, x -> x.lot(0, 4));
        refusedAct("lot(4, 4)", Check.INDEX, RefusedCallTest::full, x -> x.lot(4, 4));
        refusedAct("lot(0, 0) of no party", Check.INDEX, RefusedCallTest::fresh, x -> x.lot(0, 0));
    }

    private static void nothingToShare() {
        Maker[] makers = {RefusedCallTest::allOut, RefusedCallTest::fresh};
        for (Maker maker : makers) {
            refused("share(0) of nothing", Check.STATE, maker, x -> x.share(0));
            refused("share(9) of nothing", Check.STATE, maker, x -> x.share(9));
            refused("tied(0) of nothing", Check.STATE, maker, x -> x.tied(0));
            refused("tied(-1) of nothing", Check.STATE, maker, x -> x.tied(-1));
            refused("solve() of nothing", Check.STATE, maker, TwoWaySeats::solve);
            refused("judge() of nothing", Check.STATE, maker, TwoWaySeats::judge);
        }
    }

    private static void notSolved() {
        Maker[] makers = {RefusedCallTest::unsolved, RefusedCallTest::allOut, RefusedCallTest::fresh};
        for (Maker maker : makers) {
            noTable("not solved", maker);
            refused("blocks(false, 0), not solved", Check.STATE, maker, x -> x.blocks(false, 0));
            refused("blocks(true, 9), not solved", Check.STATE, maker, x -> x.blocks(true, 9));
        }
        noTable("no table", RefusedCallTest::block);
    }

    private static void noTable(String why, Maker maker) {
        refused("seats(0, 0, false), " + why, Check.STATE, maker, x -> x.seats(0, 0, false));
        refused("seats(9, 0, true), " + why, Check.STATE, maker, x -> x.seats(9, 0, true));
        refused("seats(0, -1, true), " + why, Check.STATE, maker, x -> x.seats(0, -1, true));
        refused("unique(), " + why, Check.STATE, maker, TwoWaySeats::unique);
        refused("number(false, 0, false), " + why, Check.STATE, maker, x -> x.number(false, 0, false));
        refused("number(true, 2, false), " + why, Check.STATE, maker, x -> x.number(true, 2, false));
        refused("number(true, 9, true), " + why, Check.STATE, maker, x -> x.number(true, 9, true));
    }

    private static void noSuch() {
        Maker maker = RefusedCallTest::table;
        refused("share(3)", Check.INDEX, maker, x -> x.share(3));
        refused("share(-1)", Check.INDEX, maker, x -> x.share(-1));
        refused("tied(3)", Check.INDEX, maker, x -> x.tied(3));
        refused("tied(-1)", Check.INDEX, maker, x -> x.tied(-1));
        refused("seats(2, 0, false)", Check.INDEX, maker, x -> x.seats(2, 0, false));
        refused("seats(0, 3, true)", Check.INDEX, maker, x -> x.seats(0, 3, true));
        refused("number(false, 2, false)", Check.INDEX, maker, x -> x.number(false, 2, false));
        refused("number(true, 3, true)", Check.INDEX, maker, x -> x.number(true, 3, true));
        refused("blocks(false, 3)", Check.INDEX, RefusedCallTest::block, x -> x.blocks(false, 3));
        refused("blocks(true, 2)", Check.INDEX, RefusedCallTest::block, x -> x.blocks(true, 2));
    }

    private static void noNumber() {
        refused("number(true, 2, false)", Check.NO_ELEMENT, RefusedCallTest::table, x -> x.number(true, 2, false));
        refused("number(true, 2, true)", Check.NO_ELEMENT, RefusedCallTest::table, x -> x.number(true, 2, true));
    }

    private static void noBlock() {
        refused("blocks(false, 0), a table fits", Check.STATE, RefusedCallTest::table, x -> x.blocks(false, 0));
        refused("blocks(false, 9), a table fits", Check.STATE, RefusedCallTest::table, x -> x.blocks(false, 9));
        refused("blocks(true, -1), a table fits", Check.STATE, RefusedCallTest::table, x -> x.blocks(true, -1));
    }

    private static void propose() {
        refusedAct("propose(2, 0, 1)", Check.INDEX, RefusedCallTest::table, x -> x.propose(2, 0, 1));
        refusedAct("propose(0, 3, 1)", Check.INDEX, RefusedCallTest::table, x -> x.propose(0, 3, 1));
        refusedAct("propose(1, -1, 1)", Check.INDEX, RefusedCallTest::table, x -> x.propose(1, -1, 1));
        refusedAct("propose(2, 0, 21)", Check.INDEX, RefusedCallTest::table, x -> x.propose(2, 0, 21));
        refusedAct("propose(0, 3, -1)", Check.INDEX, RefusedCallTest::table, x -> x.propose(0, 3, -1));
        refusedAct("propose(0, 4, 1)", Check.INDEX, RefusedCallTest::full, x -> x.propose(0, 4, 1));
        refusedAct("propose(4, 0, 1)", Check.INDEX, RefusedCallTest::full, x -> x.propose(4, 0, 1));
        refusedAct("propose(0, 0, 21)", Check.ARGUMENT, RefusedCallTest::table, x -> x.propose(0, 0, 21));
        refusedAct("propose(0, 0, -1)", Check.ARGUMENT, RefusedCallTest::table, x -> x.propose(0, 0, -1));
        refusedAct("propose(0, 0, 1) of no list", Check.INDEX, RefusedCallTest::fresh, x -> x.propose(0, 0, 1));
    }
}
