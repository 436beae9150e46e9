/** Promises 1 to 8: what there is, and what is refused. */
public final class InputTest {
    private static final int[] FAR = {Integer.MIN_VALUE, -1, 4, 5, Integer.MAX_VALUE};

    public static void main(String[] args) {
        newObject();
        districts();
        parties();
        votes();
        weigh();
        threshold();
        lot();
        lotRefuses();
        Check.end();
    }

    private static void newObject() {
        TwoWaySeats x = new TwoWaySeats();
        Check.due("1: districts", 0, () -> x.count(false));
        Check.due("1: parties", 0, () -> x.count(true));
        Check.due("1: seats", Check.STATE, () -> x.seats(0, 0, false));
        Check.due("1: unique", Check.STATE, x::unique);
        Check.due("1: number", Check.STATE, () -> x.number(false, 0, false));
        Check.due("1: blocks", Check.STATE, () -> x.blocks(false, 0));
        Check.due("1: solve", Check.STATE, x::solve);
        Check.due("1: judge", Check.STATE, x::judge);
        Check.due("1: share", Check.STATE, () -> x.share(0));
        Check.due("1: tied", Check.STATE, () -> x.tied(0));
        Check.dueAct("1: votes", Check.INDEX, () -> x.votes(0, 0, 1));
        Check.dueAct("1: propose", Check.INDEX, () -> x.propose(0, 0, 1));
        Check.dueAct("1: lot", Check.INDEX, () -> x.lot(0, 0));
        TwoWaySeats other = Parliament.single(1, 1);
        Check.due("1: objects are apart", "1 0", () -> other.count(true) + " " + x.count(true));
    }

    private static void districts() {
        TwoWaySeats x = new TwoWaySeats();
        for (int seats : new int[] {Integer.MIN_VALUE, -1, 0, 21, Integer.MAX_VALUE}) {
            Check.due("2: district(" + seats + ")", Check.ARGUMENT, () -> x.district(seats));
        }
        Check.due("2: the least", 0, () -> x.district(1));
        Check.due("2: too many together", Check.ARGUMENT, () -> x.district(20));
        Check.due("2: far too many together", Check.ARGUMENT, () -> x.district(Integer.MAX_VALUE));
        Check.due("2: nothing changed", 1, () -> x.count(false));
        Check.due("2: second", 1, () -> x.district(2));
        Check.due("2: third", 2, () -> x.district(3));
        Check.due("2: fourth", 3, () -> x.district(4));
        Check.due("2: fifth", Check.UNSUPPORTED, () -> x.district(10));
        Check.due("2: fifth and too many", Check.ARGUMENT, () -> x.district(11));
        Check.due("2: fifth and none", Check.ARGUMENT, () -> x.district(0));
        Check.due("2: four", 4, () -> x.count(false));
        Check.due("2: no parties yet", 0, () -> x.count(true));
        TwoWaySeats whole = new TwoWaySeats();
        Check.due("2: the most", 0, () -> whole.district(20));
        Check.due("2: none left", Check.ARGUMENT, () -> whole.district(1));
        TwoWaySeats filled = Parliament.of(new int[] {19, 1}, new int[][] {{5}, {5}});
        Check.due("2: twenty together", 20, () -> filled.share(0));
    }

    private static void parties() {
        TwoWaySeats x = new TwoWaySeats();
        for (int p = 0; p < 4; p++) {
            Check.due("3: party " + p, p, x::party);
        }
        Check.due("3: a fifth party", Check.UNSUPPORTED, x::party);
        Check.due("8: parties", 4, () -> x.count(true));
        Check.due("8: districts", 0, () -> x.count(false));
    }

    private static void votes() {
        TwoWaySeats x = Parliament.of(new int[] {2, 1}, new int[][] {{10, 20, 30}, {0, 0, 500}});
        for (int k : FAR) {
            Check.dueAct("4: votes of district " + k, Check.INDEX, () -> x.votes(k, 0, 1));
            Check.dueAct("4: votes of party " + k, Check.INDEX, () -> x.votes(0, k, 1));
        }
        Check.dueAct("4: no such district, just beyond", Check.INDEX, () -> x.votes(2, 0, 1));
        Check.dueAct("4: no such party, just beyond", Check.INDEX, () -> x.votes(0, 3, 1));
        Check.dueAct("4: both wrong", Check.INDEX, () -> x.votes(2, 0, 501));
        Check.dueAct("4: party and votes wrong", Check.INDEX, () -> x.votes(0, -1, -1));
        for (int n : new int[] {Integer.MIN_VALUE, -1, 501, Integer.MAX_VALUE}) {
            Check.dueAct("4: votes " + n, Check.ARGUMENT, () -> x.votes(0, 0, n));
        }
        Check.due("4: as before", "0 0 3", () -> Parliament.shares(x));
        Check.dueAct("4: the most", Check.NOTHING, () -> x.votes(0, 0, 500));
        Check.dueAct("4: the least", Check.NOTHING, () -> x.votes(1, 2, 0));
        Check.due("4: as said last", "3 0 0", () -> Parliament.shares(x));
        x.party();
        Check.due("4: a new party has none", "3 0 0 0", () -> Parliament.shares(x));
    }

    private static void weigh() {
        // 100 / 3 is less than 67 / 2, though 100 is more than 67, and both are 33 if rounded.
        TwoWaySeats x = Parliament.of(new int[] {3, 2}, new int[][] {{100, 0}, {0, 67}});
        Check.due("5: not weighed at first", "3 2", () -> Parliament.shares(x));
        x.weigh(true);
        Check.due("5: weighed", "2 3", () -> Parliament.shares(x));
        x.weigh(true);
        Check.due("5: weighed again", "2 3", () -> Parliament.shares(x));
        x.weigh(false);
        Check.due("5: not weighed", "3 2", () -> Parliament.shares(x));
        TwoWaySeats even = Parliament.of(new int[] {3, 2}, new int[][] {{99, 0}, {0, 66}});
        even.weigh(true);
        Check.due("5: 99 / 3 is 66 / 2", "3 2", () -> Parliament.shares(even));
        Check.due("5: 99 / 3 is 66 / 2, so they are tied", "11", () -> Parliament.ties(even));
        even.weigh(false);
        Check.due("5: 99 is not 66", "00", () -> Parliament.ties(even));
    }

    private static void threshold() {
        TwoWaySeats x = Parliament.single(10, 10, 30, 60);
        for (int n : new int[] {Integer.MIN_VALUE, -1, 1001, Integer.MAX_VALUE}) {
            Check.dueAct("6: threshold " + n, Check.ARGUMENT, () -> x.threshold(n));
        }
        Check.due("6: none at first", "1 3 6", () -> Parliament.shares(x));
        x.threshold(100);
        Check.due("6: just enough", "1 3 6", () -> Parliament.shares(x));
        x.threshold(101);
        Check.due("6: too few", "0 3 7", () -> Parliament.shares(x));
        Check.dueAct("6: refused", Check.ARGUMENT, () -> x.threshold(1001));
        Check.due("6: as before", "0 3 7", () -> Parliament.shares(x));
        // 30 of 90 would be enough, but the votes of all lists count.
        x.threshold(301);
        Check.due("6: of all votes", "0 0 10", () -> Parliament.shares(x));
        x.threshold(1000);
        Check.due("6: all are out", Check.STATE, () -> x.share(0));
        x.votes(0, 0, 0);
        x.votes(0, 1, 0);
        Check.due("6: all votes are enough", "0 0 10", () -> Parliament.shares(x));
        x.threshold(0);
        Check.due("6: none again", "0 0 10", () -> Parliament.shares(x));
        // Whether a party is out is a matter of its votes, weighed or not.
        TwoWaySeats small = Parliament.of(new int[] {1, 4}, new int[][] {{10, 0}, {0, 30}});
        small.weigh(true);
        small.threshold(251);
        Check.due("6: not weighed", "0 5", () -> Parliament.shares(small));
    }

    /** Which party comes first in the order: it gets the only seat of four equal parties. */
    private static String first(TwoWaySeats x) {
        return String.valueOf(Parliament.shares(x).replace(" ", "").indexOf('1'));
    }

    private static void lot() {
        TwoWaySeats x = Parliament.single(1, 7, 7, 7, 7);
        Check.due("7: by their numbers", 0, () -> first(x));
        x.lot(3, 2);
        Check.due("7: the one with a position", 2, () -> first(x));
        x.lot(1, 3);
        Check.due("7: the lesser position", 3, () -> first(x));
        x.lot(1, 1);
        Check.due("7: another one has it", 1, () -> first(x));
        x.lot(2, 1);
        x.votes(0, 1, 0);
        Check.due("7: the one before has it no more", 2, () -> first(x));
        x.votes(0, 1, 7);
        x.lot(0, 0);
        x.lot(3, 0);
        Check.due("7: it has left its first position", 1, () -> first(x));
        x.votes(0, 1, 0);
        Check.due("7: and pushed out the one that had the other", 0, () -> first(x));
        x.votes(0, 0, 0);
        Check.due("7: the others by their numbers", 2, () -> first(x));
        TwoWaySeats late = Parliament.single(2, 9, 9, 9);
        late.lot(3, 2);
        Check.due("7: then the others", "1 0 1", () -> Parliament.shares(late));
        late.lot(3, 2);
        Check.due("7: the same again", "1 0 1", () -> Parliament.shares(late));
    }

    private static void lotRefuses() {
        TwoWaySeats x = Parliament.single(1, 7, 7);
        for (int k : FAR) {
            Check.dueAct("7: position " + k, Check.INDEX, () -> x.lot(k, 1));
            Check.dueAct("7: party " + k, Check.INDEX, () -> x.lot(0, k));
        }
        Check.dueAct("7: party just beyond", Check.INDEX, () -> x.lot(0, 2));
        Check.due("7: nothing changed", 0, () -> first(x));
    }
}
