/** Promises 9 and 10: share and tied. */
public final class SharesTest {
    public static void main(String[] args) {
        ordinary();
        equal();
        tied();
        nothingToShare();
        refuses();
        Check.end();
    }

    private static void ordinary() {
        // 100 60 33.3 20 20: the fourth seat goes to party 0 by the order, the fifth to party 1.
        Check.due("9: one seat", "1 0", () -> Parliament.shares(Parliament.single(1, 100, 60)));
        Check.due("9: three seats", "2 1", () -> Parliament.shares(Parliament.single(3, 100, 60)));
        Check.due("9: four seats", "3 1", () -> Parliament.shares(Parliament.single(4, 100, 60)));
        Check.due("9: five seats", "3 2", () -> Parliament.shares(Parliament.single(5, 100, 60)));
        Check.due("9: one vote is not enough", "20 0", () -> Parliament.shares(Parliament.single(20, 500, 1)));
        Check.due("9: one vote is enough", "1 19", () -> Parliament.shares(Parliament.single(20, 1, 38)));
        Check.due("9: of all districts", "4 6 2", () -> Parliament.shares(Parliament.of(new int[] {3, 4, 5},
                new int[][] {{120, 40, 35}, {200, 180, 20}, {90, 300, 111}})));
        TwoWaySeats x = Parliament.single(4, 100, 60);
        x.lot(0, 1);
        Check.due("9: by lot", "2 2", () -> Parliament.shares(x));
        x.district(1);
        Check.due("9: with a district more", "3 2", () -> Parliament.shares(x));
    }

    private static void equal() {
        TwoWaySeats x = Parliament.single(6, 10, 10, 10, 10);
        Check.due("9: all equal", "2 2 1 1", () -> Parliament.shares(x));
        Check.due("10: all equal", "1111", () -> Parliament.ties(x));
        x.lot(2, 3);
        Check.due("9: one by lot", "2 1 1 2", () -> Parliament.shares(x));
        x.lot(0, 2);
        Check.due("9: two by lot", "1 1 2 2", () -> Parliament.shares(x));
    }

    private static void tied() {
        Check.due("10: the last seat has a rival", "11", () -> Parliament.ties(Parliament.single(4, 100, 60)));
        Check.due("10: both have got theirs", "00", () -> Parliament.ties(Parliament.single(5, 100, 60)));
        Check.due("10: no last seat, a next one", "11", () -> Parliament.ties(Parliament.single(1, 10, 10)));
        Check.due("10: not the third", "110", () -> Parliament.ties(Parliament.single(1, 10, 10, 9)));
        Check.due("10: without votes", "000", () -> Parliament.ties(Parliament.single(3, 10, 0, 0)));
        Check.due("10: alone", "0", () -> Parliament.ties(Parliament.single(3, 10)));
        Check.due("10: the one that has no seat", "011", () -> Parliament.ties(Parliament.single(2, 80, 30, 30)));
    }

    private static void nothingToShare() {
        TwoWaySeats x = new TwoWaySeats();
        x.party();
        Check.due("9: no district", Check.STATE, () -> x.share(0));
        Check.due("10: no district", Check.STATE, () -> x.tied(0));
        x.district(3);
        Check.due("9: no votes", Check.STATE, () -> x.share(0));
        Check.due("10: no votes", Check.STATE, () -> x.tied(0));
        Check.due("9: no votes and no such party", Check.STATE, () -> x.share(1));
        Check.due("10: no votes and no such party", Check.STATE, () -> x.tied(-1));
        x.votes(0, 0, 1);
        Check.due("9: a vote", 3, () -> x.share(0));
        Check.due("10: a vote", false, () -> x.tied(0));
    }

    private static void refuses() {
        TwoWaySeats x = Parliament.single(3, 10, 10);
        for (int k : new int[] {Integer.MIN_VALUE, -1, 2, 4, Integer.MAX_VALUE}) {
            Check.due("9: share(" + k + ")", Check.INDEX, () -> x.share(k));
            Check.due("10: tied(" + k + ")", Check.INDEX, () -> x.tied(k));
        }
    }
}
