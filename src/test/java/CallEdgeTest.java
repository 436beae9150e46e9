/** The edges that the document names under 'Promise 1' to 'Promise 17', a method for each call. */
public final class CallEdgeTest {
    private static final int LOW = Integer.MIN_VALUE;
    private static final int HIGH = Integer.MAX_VALUE;

    public static void main(String[] args) {
        newObject();
        districtSeats();
        districtTogether();
        districtFour();
        partyFour();
        votesIndex();
        votesLimits();
        weighOnAndOff();
        thresholdLimits();
        lotPositions();
        lotTakesAway();
        count();
        shareIndex();
        tiedIndex();
        solveBothWays();
        seatsNotSolved();
        seatsIndex();
        uniqueNotSolved();
        numberNotSolved();
        numberIndex();
        numberNone();
        numberLowestTerms();
        blocksNotSolved();
        blocksIndex();
        proposeIndex();
        proposeLimits();
        proposeEndsNothing();
        proposalStays();
        judgeLeast();
        judgeOneMoreOneLess();
        judgeNothing();
        Check.end();
    }

    /** One district and three parties: an index of the one is not one of the other. */
    private static TwoWaySeats wide() {
        return Parliament.single(6, 30, 20, 10);
    }

    /** Three districts and one party. */
    private static TwoWaySeats high() {
        return Parliament.of(new int[] {3, 2, 1}, new int[][] {{30}, {20}, {10}});
    }

    private static TwoWaySeats blocked() {
        return Parliament.of(new int[] {2, 1, 1}, new int[][] {{1, 0}, {0, 100}, {0, 100}});
    }

    private static TwoWaySeats solved(TwoWaySeats x) {
        x.solve();
        return x;
    }

    /** "No districts, no parties, nothing solved." */
    private static void newObject() {
        TwoWaySeats x = new TwoWaySeats();
        Check.due("1: no districts", 0, () -> x.count(false));
        Check.due("1: no parties", 0, () -> x.count(true));
        Check.due("1: no seats", Check.STATE, () -> x.seats(0, 0, false));
        Check.due("1: not unique", Check.STATE, x::unique);
        Check.due("1: no number", Check.STATE, () -> x.number(true, 0, true));
        Check.due("1: no block", Check.STATE, () -> x.blocks(true, 0));
        Check.due("1: the first district", 0, () -> x.district(1));
        Check.due("1: the first party", 0, x::party);
        x.votes(0, 0, 1);
        Check.due("1: nothing solved with votes", Check.STATE, () -> x.seats(0, 0, false));
        Check.due("1: no seats proposed", 2, x::judge);
    }

    /** "IllegalArgumentException when seats is not 1 .. 20". */
    private static void districtSeats() {
        for (int seats : new int[] {LOW, -20, -1, 0, 21, 22, HIGH}) {
            TwoWaySeats x = new TwoWaySeats();
            Check.due("2: district(" + seats + ")", Check.ARGUMENT, () -> x.district(seats));
            Check.due("2: none made", 0, () -> x.count(false));
            Check.due("2: the number is not used up", 0, () -> x.district(1));
        }
        for (int seats = 1; seats <= 20; seats++) {
            TwoWaySeats x = new TwoWaySeats();
            int n = seats;
            Check.due("2: district(" + seats + ")", 0, () -> x.district(n));
            x.party();
            x.votes(0, 0, 1);
            Check.due("2: it has " + seats, seats, () -> x.share(0));
        }
    }

    /** ".. or there would be more than 20 together". */
    private static void districtTogether() {
        for (int before = 1; before <= 20; before++) {
            TwoWaySeats x = new TwoWaySeats();
            x.district(before);
            int left = 20 - before;
            Check.due("2: " + before + " and " + (left + 1), Check.ARGUMENT, () -> x.district(left + 1));
            if (left > 0) {
                Check.due("2: " + before + " and " + left, 1, () -> x.district(left));
            }
            Check.due("2: one more than 20", Check.ARGUMENT, () -> x.district(1));
        }
        TwoWaySeats three = new TwoWaySeats();
        three.district(6);
        three.district(6);
        three.district(6);
        Check.due("2: 18 and 3", Check.ARGUMENT, () -> three.district(3));
        Check.due("2: far too many", Check.ARGUMENT, () -> three.district(HIGH - 17));
        Check.due("2: 18 and 2", 3, () -> three.district(2));
    }

    /** "UnsupportedOperationException when there are four." */
    private static void districtFour() {
        TwoWaySeats x = new TwoWaySeats();
        for (int d = 0; d < 4; d++) {
            int number = d;
            Check.due("2: district " + d, number, () -> x.district(1));
        }
        Check.due("2: a fifth", Check.UNSUPPORTED, () -> x.district(1));
        Check.due("2: a fifth with all seats left", Check.UNSUPPORTED, () -> x.district(16));
        Check.due("2: a fifth with one more", Check.ARGUMENT, () -> x.district(17));
        Check.due("2: a fifth without seats", Check.ARGUMENT, () -> x.district(0));
        Check.due("2: four", 4, () -> x.count(false));
        TwoWaySeats full = new TwoWaySeats();
        for (int d = 0; d < 4; d++) {
            full.district(5);
        }
        Check.due("2: four and 20 seats", Check.ARGUMENT, () -> full.district(1));
    }

    /** "UnsupportedOperationException when there are four." */
    private static void partyFour() {
        TwoWaySeats x = new TwoWaySeats();
        for (int p = 0; p < 4; p++) {
            int number = p;
            Check.due("3: party " + p, number, x::party);
        }
        Check.due("3: a fifth", Check.UNSUPPORTED, x::party);
        Check.due("3: a fifth again", Check.UNSUPPORTED, x::party);
        Check.due("3: four", 4, () -> x.count(true));
    }

    /** "IndexOutOfBoundsException when there is no such district or party". */
    private static void votesIndex() {
        for (int k : new int[] {LOW, -1, 1, 2, 3, 4, HIGH}) {
            Check.dueAct("4: district " + k + " of one", Check.INDEX, () -> wide().votes(k, 0, 1));
            Check.dueAct("4: party " + k + " of one", Check.INDEX, () -> high().votes(0, k, 1));
        }
        for (int k : new int[] {LOW, -1, 3, 4, HIGH}) {
            Check.dueAct("4: party " + k + " of three", Check.INDEX, () -> wide().votes(0, k, 1));
            Check.dueAct("4: district " + k + " of three", Check.INDEX, () -> high().votes(k, 0, 1));
        }
        Check.dueAct("4: the last party", Check.NOTHING, () -> wide().votes(0, 2, 1));
        Check.dueAct("4: the last district", Check.NOTHING, () -> high().votes(2, 0, 1));
        TwoWaySeats full = Parliament.of(new int[] {1, 1, 1, 1}, new int[4][4]);
        Check.dueAct("4: the last list", Check.NOTHING, () -> full.votes(3, 3, 1));
        Check.due("4: the last list has it", "0 0 0 4", () -> Parliament.shares(full));
        Check.dueAct("4: district 4 of four", Check.INDEX, () -> full.votes(4, 0, 1));
        Check.dueAct("4: party 4 of four", Check.INDEX, () -> full.votes(0, 4, 1));
    }

    /** "IllegalArgumentException when n is not 0 .. 500." */
    private static void votesLimits() {
        TwoWaySeats x = Parliament.single(1, 250, 251);
        for (int n : new int[] {LOW, -1, 501, 502, HIGH}) {
            Check.dueAct("4: votes " + n, Check.ARGUMENT, () -> x.votes(0, 0, n));
            Check.due("4: as before", "0 1", () -> Parliament.shares(x));
        }
        Check.dueAct("4: votes 500", Check.NOTHING, () -> x.votes(0, 0, 500));
        Check.due("4: it has 500", "1 0", () -> Parliament.shares(x));
        x.votes(0, 1, 500);
        Check.due("4: 500 is 500", "11", () -> Parliament.ties(x));
        Check.dueAct("4: votes 0", Check.NOTHING, () -> x.votes(0, 0, 0));
        Check.due("4: it has none", "0 1", () -> Parliament.shares(x));
        Check.due("4: 0 is not 500", "00", () -> Parliament.ties(x));
    }

    /** "Votes are weighed from now on, or not." */
    private static void weighOnAndOff() {
        TwoWaySeats x = Parliament.of(new int[] {3, 2}, new int[][] {{100, 0}, {0, 67}});
        String[] due = {"3 2", "2 3"};
        Check.due("5: at first not", due[0], () -> Parliament.shares(x));
        for (boolean on : new boolean[] {true, true, false, false, true}) {
            Check.dueAct("5: weigh(" + on + ")", Check.NOTHING, () -> x.weigh(on));
            Check.due("5: after weigh(" + on + ")", due[on ? 1 : 0], () -> Parliament.shares(x));
        }
        x.votes(0, 0, 101);
        Check.due("5: votes said later are weighed too", "3 2", () -> Parliament.shares(x));
    }

    /** "IllegalArgumentException when it is not 0 .. 1000." */
    private static void thresholdLimits() {
        TwoWaySeats x = Parliament.single(2, 499, 500);
        for (int n : new int[] {LOW, -1000, -1, 1001, HIGH}) {
            Check.dueAct("6: threshold " + n, Check.ARGUMENT, () -> x.threshold(n));
            Check.due("6: as before", "1 1", () -> Parliament.shares(x));
        }
        Check.dueAct("6: threshold 1000", Check.NOTHING, () -> x.threshold(1000));
        Check.due("6: all are out", Check.STATE, () -> x.share(0));
        Check.dueAct("6: threshold -1", Check.ARGUMENT, () -> x.threshold(-1));
        Check.due("6: all are out still", Check.STATE, () -> x.share(0));
        Check.dueAct("6: threshold 500", Check.NOTHING, () -> x.threshold(500));
        Check.due("6: one is out", "0 2", () -> Parliament.shares(x));
        Check.dueAct("6: threshold 0", Check.NOTHING, () -> x.threshold(0));
        Check.due("6: none is out", "1 1", () -> Parliament.shares(x));
    }

    /** "IndexOutOfBoundsException when there is no such position or party." */
    private static void lotPositions() {
        for (int position = 0; position < 4; position++) {
            TwoWaySeats x = Parliament.single(1, 5, 5);
            int at = position;
            Check.dueAct("7: position " + at, Check.NOTHING, () -> x.lot(at, 1));
            Check.due("7: position " + at + " is before none", "0 1", () -> Parliament.shares(x));
        }
        TwoWaySeats x = Parliament.single(1, 5, 5);
        x.lot(1, 1);
        for (int k : new int[] {LOW, -1, 4, 5, HIGH}) {
            Check.dueAct("7: no position " + k, Check.INDEX, () -> x.lot(k, 0));
            Check.dueAct("7: no position " + k + " for party 1", Check.INDEX, () -> x.lot(k, 1));
            Check.due("7: as before", "0 1", () -> Parliament.shares(x));
        }
        for (int k : new int[] {LOW, -1, 2, 3, 4, HIGH}) {
            Check.dueAct("7: no party " + k, Check.INDEX, () -> x.lot(0, k));
            Check.dueAct("7: no party " + k + " for position 1", Check.INDEX, () -> x.lot(1, k));
            Check.due("7: as before", "0 1", () -> Parliament.shares(x));
        }
        TwoWaySeats none = new TwoWaySeats();
        Check.dueAct("7: no party at all", Check.INDEX, () -> none.lot(0, 0));
        none.party();
        Check.dueAct("7: a party, but no district", Check.NOTHING, () -> none.lot(3, 0));
    }

    /** "the party that had it has none any more, nor has the party the one that it had". */
    private static void lotTakesAway() {
        TwoWaySeats x = Parliament.single(1, 5, 5, 5);
        x.lot(0, 2);
        x.lot(0, 1);
        Check.due("7: another party has it", "0 1 0", () -> Parliament.shares(x));
        x.votes(0, 1, 0);
        Check.due("7: the party that had it has none", "1 0 0", () -> Parliament.shares(x));
        TwoWaySeats y = Parliament.single(1, 5, 5, 5);
        y.lot(0, 2);
        y.lot(1, 1);
        y.lot(2, 2);
        Check.due("7: it has not the one that it had", "0 1 0", () -> Parliament.shares(y));
        y.lot(0, 0);
        Check.due("7: that one is free", "1 0 0", () -> Parliament.shares(y));
        y.lot(1, 0);
        y.votes(0, 0, 0);
        Check.due("7: both at once: the one pushed out has none", "0 0 1", () -> Parliament.shares(y));
        y.lot(2, 2);
        Check.due("7: the same again keeps it", "0 0 1", () -> Parliament.shares(y));
    }

    /** "How many districts (or parties) there are." */
    private static void count() {
        TwoWaySeats x = new TwoWaySeats();
        for (int n = 1; n <= 4; n++) {
            int due = n;
            x.district(1);
            Check.due("8: districts", due, () -> x.count(false));
            Check.due("8: parties", due - 1, () -> x.count(true));
            x.party();
            Check.due("8: parties", due, () -> x.count(true));
        }
        Check.due("8: a fifth party", Check.UNSUPPORTED, x::party);
        Check.due("8: a fifth district", Check.UNSUPPORTED, () -> x.district(1));
        Check.due("8: still four parties", 4, () -> x.count(true));
        Check.due("8: still four districts", 4, () -> x.count(false));
    }

    /** "IndexOutOfBoundsException when there is no such party." */
    private static void shareIndex() {
        for (int k : new int[] {LOW, -1, 3, 4, HIGH}) {
            Check.due("9: party " + k + " of three", Check.INDEX, () -> wide().share(k));
        }
        for (int k : new int[] {LOW, -1, 1, 2, 3, 4, HIGH}) {
            Check.due("9: party " + k + " of one", Check.INDEX, () -> high().share(k));
        }
        Check.due("9: the last party", 1, () -> wide().share(2));
        Check.due("9: four parties", Check.INDEX, () -> Parliament.single(1, 1, 1, 1, 1).share(4));
        Check.due("9: nothing to share and no such party", Check.STATE, () -> new TwoWaySeats().share(-1));
    }

    /** "IndexOutOfBoundsException when there is no such party." */
    private static void tiedIndex() {
        for (int k : new int[] {LOW, -1, 3, 4, HIGH}) {
            Check.due("10: party " + k + " of three", Check.INDEX, () -> wide().tied(k));
        }
        for (int k : new int[] {LOW, -1, 1, 2, 3, 4, HIGH}) {
            Check.due("10: party " + k + " of one", Check.INDEX, () -> high().tied(k));
        }
        Check.due("10: the last party", false, () -> wide().tied(2));
        Check.due("10: four parties", Check.INDEX, () -> Parliament.single(1, 1, 1, 1, 1).tied(4));
        Check.due("10: nothing to share and no such party", Check.STATE, () -> new TwoWaySeats().tied(4));
    }

    /** "Solves it: whether there is a table that obeys. IllegalStateException when there is NOTHING TO SHARE." */
    private static void solveBothWays() {
        TwoWaySeats x = Parliament.of(new int[] {1, 1}, new int[][] {{1, 0}, {1, 0}});
        Check.due("11: there is one", true, x::solve);
        Check.due("11: there is one still", true, x::solve);
        x.votes(1, 0, 0);
        Check.due("11: there is none any more", false, x::solve);
        Check.due("11: there is none still", false, x::solve);
        x.votes(0, 0, 0);
        Check.due("11: nothing to share", Check.STATE, x::solve);
        x.votes(0, 1, 1);
        x.votes(1, 1, 1);
        Check.due("11: there is one again", true, x::solve);
        Check.due("11: it is another one", "0 1 / 0 1", () -> Parliament.table(x, true));
    }

    /** "IllegalStateException when it is not SOLVED, or there is no table that obeys". */
    private static void seatsNotSolved() {
        for (boolean last : new boolean[] {false, true}) {
            Check.due("12: not solved", Check.STATE, () -> wide().seats(0, 0, last));
            Check.due("12: not solved, no such list", Check.STATE, () -> wide().seats(-1, 9, last));
            Check.due("12: no table", Check.STATE, () -> solved(blocked()).seats(1, 1, last));
            Check.due("12: no table, no such list", Check.STATE, () -> solved(blocked()).seats(3, 2, last));
        }
    }

    /** "IndexOutOfBoundsException when there is no such district or party." */
    private static void seatsIndex() {
        TwoWaySeats wide = solved(wide());
        TwoWaySeats high = solved(high());
        for (boolean last : new boolean[] {false, true}) {
            for (int k : new int[] {LOW, -1, 1, 2, 3, 4, HIGH}) {
                Check.due("12: district " + k + " of one", Check.INDEX, () -> wide.seats(k, 0, last));
                Check.due("12: party " + k + " of one", Check.INDEX, () -> high.seats(0, k, last));
            }
            for (int k : new int[] {LOW, -1, 3, 4, HIGH}) {
                Check.due("12: party " + k + " of three", Check.INDEX, () -> wide.seats(0, k, last));
                Check.due("12: district " + k + " of three", Check.INDEX, () -> high.seats(k, 0, last));
            }
            Check.due("12: the last party", 1, () -> wide.seats(0, 2, last));
            Check.due("12: the last district", 1, () -> high.seats(2, 0, last));
        }
    }

    /** "Whether just one table obeys. IllegalStateException as for seats." */
    private static void uniqueNotSolved() {
        Check.due("13: not solved", Check.STATE, () -> wide().unique());
        Check.due("13: no table", Check.STATE, () -> solved(blocked()).unique());
        Check.due("13: just one", true, () -> solved(wide()).unique());
        Check.due("13: two", false,
                () -> solved(Parliament.of(new int[] {1, 1}, new int[][] {{1, 1}, {1, 1}})).unique());
        TwoWaySeats shared = solved(Parliament.single(1, 5, 5));
        Check.due("13: parties are tied", true, () -> shared.tied(0));
        Check.due("13: but the shares are given, so one table", true, shared::unique);
    }

    /** "IllegalStateException as for seats". */
    private static void numberNotSolved() {
        for (boolean party : new boolean[] {false, true}) {
            for (boolean below : new boolean[] {false, true}) {
                Check.due("14: not solved", Check.STATE, () -> wide().number(party, 0, below));
                Check.due("14: not solved, no such one", Check.STATE, () -> wide().number(party, -1, below));
                Check.due("14: no table", Check.STATE, () -> solved(blocked()).number(party, 1, below));
                Check.due("14: no table, no such one", Check.STATE, () -> solved(blocked()).number(party, 3, below));
            }
        }
    }

    /** "IndexOutOfBoundsException when there is no such district or party". */
    private static void numberIndex() {
        TwoWaySeats wide = solved(wide());
        TwoWaySeats high = solved(high());
        for (boolean below : new boolean[] {false, true}) {
            for (int k : new int[] {LOW, -4, -1, 1, 2, 3, 4, 5, HIGH}) {
                Check.due("14: district " + k + " of one", Check.INDEX, () -> wide.number(false, k, below));
                Check.due("14: party " + k + " of one", Check.INDEX, () -> high.number(true, k, below));
            }
            for (int k : new int[] {LOW, -4, -1, 3, 4, 5, HIGH}) {
                Check.due("14: party " + k + " of three", Check.INDEX, () -> wide.number(true, k, below));
                Check.due("14: district " + k + " of three", Check.INDEX, () -> high.number(false, k, below));
            }
        }
        Check.due("14: the last party", "10/3", () -> Parliament.number(wide, true, 2));
        Check.due("14: the last district", "1/1", () -> Parliament.number(high, false, 2));
    }

    /** "NoSuchElementException when it has none." */
    private static void numberNone() {
        for (boolean below : new boolean[] {false, true}) {
            TwoWaySeats x = solved(Parliament.single(2, 5, 0, 1, 0));
            Check.due("14: party 1 has none", Check.NO_ELEMENT, () -> x.number(true, 1, below));
            Check.due("14: party 3 has none", Check.NO_ELEMENT, () -> x.number(true, 3, below));
            Check.due("14: districts have one", 1L, () -> x.number(false, 0, below));
            Check.due("14: party 2 has one without a seat", 1L, () -> x.number(true, 2, below));
        }
    }

    /** "as a fraction in its lowest terms: what stands above, or below". */
    private static void numberLowestTerms() {
        TwoWaySeats x = solved(Parliament.single(1, 6));
        Check.due("14: 6 / 3 above", 2L, () -> x.number(true, 0, false));
        Check.due("14: 6 / 3 below", 1L, () -> x.number(true, 0, true));
        TwoWaySeats y = solved(Parliament.single(1, 1));
        Check.due("14: 1 / 3 above", 1L, () -> y.number(true, 0, false));
        Check.due("14: 1 / 3 below", 3L, () -> y.number(true, 0, true));
        TwoWaySeats z = solved(Parliament.single(20, 500));
        Check.due("14: 500 / 41 above", 500L, () -> z.number(true, 0, false));
        Check.due("14: 500 / 41 below", 41L, () -> z.number(true, 0, true));
        // 480 / 9 * 7 / 210 is 16 / 9.
        TwoWaySeats chain = solved(Parliament.of(new int[] {4, 4}, new int[][] {{480}, {210}}));
        Check.due("14: a chain above", 16L, () -> chain.number(false, 1, false));
        Check.due("14: a chain below", 9L, () -> chain.number(false, 1, true));
    }

    /** "IllegalStateException when it is not SOLVED, or a table fits". */
    private static void blocksNotSolved() {
        for (boolean party : new boolean[] {false, true}) {
            Check.due("15: not solved", Check.STATE, () -> blocked().blocks(party, 0));
            Check.due("15: not solved, no such one", Check.STATE, () -> blocked().blocks(party, -1));
            Check.due("15: a table fits", Check.STATE, () -> solved(wide()).blocks(party, 0));
            Check.due("15: a table fits, no such one", Check.STATE, () -> solved(wide()).blocks(party, 4));
        }
    }

    /** "IndexOutOfBoundsException when there is no such district or party." */
    private static void blocksIndex() {
        TwoWaySeats x = solved(blocked());
        for (int k : new int[] {LOW, -1, 3, 4, 32, 33, HIGH}) {
            Check.due("15: district " + k + " of three", Check.INDEX, () -> x.blocks(false, k));
        }
        for (int k : new int[] {LOW, -1, 2, 3, 4, 32, 33, HIGH}) {
            Check.due("15: party " + k + " of two", Check.INDEX, () -> x.blocks(true, k));
        }
        Check.due("15: the last ones", "100 10", () -> Parliament.block(x));
    }

    /** "IndexOutOfBoundsException when there is no such district or party". */
    private static void proposeIndex() {
        for (int k : new int[] {LOW, -1, 1, 2, 3, 4, HIGH}) {
            Check.dueAct("16: district " + k + " of one", Check.INDEX, () -> wide().propose(k, 0, 1));
            Check.dueAct("16: party " + k + " of one", Check.INDEX, () -> high().propose(0, k, 1));
        }
        for (int k : new int[] {LOW, -1, 3, 4, HIGH}) {
            Check.dueAct("16: party " + k + " of three", Check.INDEX, () -> wide().propose(0, k, 1));
            Check.dueAct("16: district " + k + " of three", Check.INDEX, () -> high().propose(k, 0, 1));
        }
        Check.dueAct("16: the last party", Check.NOTHING, () -> wide().propose(0, 2, 1));
        Check.dueAct("16: the last district", Check.NOTHING, () -> high().propose(2, 0, 1));
    }

    /** "IllegalArgumentException when n is not 0 .. 20." */
    private static void proposeLimits() {
        TwoWaySeats x = Parliament.single(20, 500);
        for (int n = 0; n <= 20; n++) {
            int seats = n;
            Check.dueAct("16: " + n + " seats", Check.NOTHING, () -> x.propose(0, 0, seats));
            Check.due("17: " + n + " seats of 20", n == 20 ? 0 : 2, x::judge);
        }
        for (int n : new int[] {LOW, -1, 21, 22, HIGH}) {
            Check.dueAct("16: " + n + " seats", Check.ARGUMENT, () -> x.propose(0, 0, n));
            Check.due("17: as before", 0, x::judge);
        }
        Check.dueAct("16: more seats than the district has", Check.NOTHING, () -> wide().propose(0, 0, 20));
    }

    /** "(this ends nothing)". */
    private static void proposeEndsNothing() {
        TwoWaySeats x = solved(wide());
        Check.dueAct("16: a proposal", Check.NOTHING, () -> x.propose(0, 0, 6));
        Check.due("16: still solved", "3 2 1", () -> Parliament.table(x, false));
        Check.due("16: the table is another one than the proposal", 3, x::judge);
        Check.due("17: judge ends nothing", "3 2 1", () -> Parliament.table(x, true));
        TwoWaySeats y = solved(blocked());
        y.propose(0, 0, 2);
        Check.due("16: a block stays", "100 10", () -> Parliament.block(y));
    }

    /** "The PROPOSAL, a table of its own, at first without seats, has n seats for a list from now on". */
    private static void proposalStays() {
        TwoWaySeats x = Parliament.single(3, 500, 1);
        Check.due("16: at first without seats", 2, x::judge);
        x.solve();
        Check.due("16: solve proposes nothing", 2, x::judge);
        x.propose(0, 0, 3);
        Check.due("16: three seats", 0, x::judge);
        x.party();
        x.votes(0, 0, 499);
        x.weigh(true);
        x.threshold(3);
        x.lot(0, 0);
        Check.due("16: they stay, and a new list has none", 0, x::judge);
        x.district(1);
        x.votes(1, 0, 1);
        Check.due("16: a new district has none", 2, x::judge);
        x.propose(1, 0, 1);
        Check.due("16: now it has", 0, x::judge);
        x.propose(0, 0, 2);
        Check.due("16: the last word counts", 2, x::judge);
    }

    private static void verdict(String what, int want, TwoWaySeats x, int[][] table) {
        Parliament.propose(x, table);
        Check.due("17: " + what, want, x::judge);
    }

    /** "(the least of these that is so)". */
    private static void judgeLeast() {
        TwoWaySeats x = Parliament.of(new int[] {2, 2}, new int[][] {{20, 30}, {0, 30}});
        Check.due("9: shares", "1 3", () -> Parliament.shares(x));
        verdict("1 alone", 1, x, new int[][] {{0, 2}, {1, 1}});
        verdict("1 and 2", 1, x, new int[][] {{0, 3}, {1, 0}});
        verdict("1 and 3", 1, x, new int[][] {{1, 1}, {1, 1}});
        verdict("1, 2 and 3", 1, x, new int[][] {{20, 20}, {20, 20}});
        verdict("2 alone", 2, x, new int[][] {{1, 2}, {0, 1}});
        verdict("2 and 3", 2, x, new int[][] {{0, 0}, {0, 0}});
        verdict("3 alone", 3, x, new int[][] {{0, 2}, {0, 2}});
        verdict("none of them", 0, x, new int[][] {{1, 1}, {0, 2}});
        TwoWaySeats y = Parliament.of(new int[] {2, 2}, new int[][] {{30, 10}, {10, 30}});
        verdict("4", 4, y, new int[][] {{0, 2}, {2, 0}});
        verdict("0", 0, y, new int[][] {{2, 0}, {0, 2}});
        verdict("0 for a gain of just 1", 0, y, new int[][] {{1, 1}, {1, 1}});
        y.votes(0, 0, 31);
        Check.due("17: 4 for a gain of 31 / 30", 4, y::judge);
    }

    /** "when the seats of a district, .. those of a party are other ones than it should have". */
    private static void judgeOneMoreOneLess() {
        TwoWaySeats x = Parliament.of(new int[] {3, 2, 1}, new int[][] {{30, 3, 1}, {3, 20, 1}, {3, 1, 10}});
        Check.due("9: shares", "3 2 1", () -> Parliament.shares(x));
        int[][] table = {{3, 0, 0}, {0, 2, 0}, {0, 0, 1}};
        verdict("all as it should be", 0, x, table);
        for (int d = 0; d < 3; d++) {
            for (int change = -1; change <= 1; change += 2) {
                x.propose(d, d, table[d][d] + change);
                Check.due("17: district " + d + " has " + change, 2, x::judge);
                x.propose(d, d, table[d][d]);
            }
        }
        for (int d = 0; d < 3; d++) {
            int other = (d + 1) % 3;
            x.propose(d, d, table[d][d] - 1);
            x.propose(d, other, 1);
            Check.due("17: party " + d + " has one less, party " + other + " one more", 3, x::judge);
            x.propose(d, d, table[d][d]);
            x.propose(d, other, 0);
        }
        Check.due("17: all as before", 0, x::judge);
    }

    /** "IllegalStateException when there is NOTHING TO SHARE." */
    private static void judgeNothing() {
        TwoWaySeats x = Parliament.single(1, 0);
        Check.due("17: nothing to share, no seats", Check.STATE, x::judge);
        x.propose(0, 0, 1);
        Check.due("17: nothing to share, a seat for a list without votes", Check.STATE, x::judge);
        x.votes(0, 0, 1);
        Check.due("17: something to share, not solved", 0, x::judge);
        TwoWaySeats y = blocked();
        y.solve();
        y.propose(0, 0, 2);
        y.propose(1, 1, 1);
        y.propose(2, 1, 1);
        Check.due("17: no table fits, so no proposal does", 3, y::judge);
    }
}
