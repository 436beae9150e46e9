import java.math.BigInteger;

/** The edges that the document names under 'Terms' (and the 512 calls before it), a method for each sentence. */
public final class TermsEdgeTest {
    public static void main(String[] args) {
        uses512Calls();
        seatsTogether();
        votesAtFirst();
        outJustBelow();
        outByAllLists();
        outHasNoVotesInWhatFollows();
        outIsNotWeighed();
        weightIsAFraction();
        sharesInTheOrder();
        sharesWithoutWeight();
        nothingToShare();
        tiedHasSeats();
        tiedJustSo();
        fits();
        ringNeedsSeats();
        ringNeedsVotes();
        ringIsTwoOrMore();
        gainOfOne();
        firstByDistrict();
        firstOfListsWithSeats();
        numberOfNoWay();
        numberOfNoParty();
        numbersAreTheProof();
        blockHasMoreSeats();
        blockIsTheLeast();
        blockHasPartiesWithVotes();
        changesEndTheSolved();
        Check.end();
    }

    /** "An object is used for at most 512 calls after it has been made". */
    private static void uses512Calls() {
        TwoWaySeats x = Parliament.of(new int[] {3, 2}, new int[][] {{120, 80}, {40, 90}});
        // Parliament.of has made 8 calls, this makes 501, and 3 are left.
        for (int k = 0; k < 167; k++) {
            x.votes(0, 0, 3 * k);
            x.solve();
            x.propose(1, 1, k % 21);
        }
        x.votes(0, 0, 120);
        x.solve();
        Check.due("the 512th call", 2, () -> x.seats(0, 0, false));
    }

    /** "DISTRICTS .. with 1 .. 20 SEATS each and 20 at most together". */
    private static void seatsTogether() {
        TwoWaySeats x = Parliament.of(new int[] {5, 5, 5, 5}, new int[][] {{1}, {2}, {3}, {500}});
        Check.due("20 seats in four districts", 20, () -> x.share(0));
        Check.due("20 seats in four districts can be solved", true, x::solve);
        Check.due("20 seats in four districts, table", "5 / 5 / 5 / 5", () -> Parliament.table(x, false));
        TwoWaySeats y = Parliament.single(20, 500, 500, 500, 500);
        Check.due("20 seats in one district", true, y::solve);
        Check.due("20 seats in one district, table", "5 5 5 5", () -> Parliament.table(y, true));
    }

    /** "it has VOTES, 0 .. 500, at first 0". */
    private static void votesAtFirst() {
        TwoWaySeats x = Parliament.single(2, 10);
        x.party();
        Check.due("the lists of a new party have no votes", "2 0", () -> Parliament.shares(x));
        x.propose(0, 0, 1);
        x.propose(0, 1, 1);
        Check.due("so they can have no seats", 1, x::judge);
        x.district(1);
        Check.due("the lists of a new district have no votes", false, x::solve);
        Check.due("so it blocks", "01 00", () -> Parliament.block(x));
    }

    /** "A party is OUT, if 1000 times the votes of all its lists is less than the THRESHOLD times ..". */
    private static void outJustBelow() {
        TwoWaySeats x = Parliament.single(20, 500, 499, 1);
        x.threshold(1);
        x.solve();
        Check.due("1000 times 1 is not less than 1 times 1000", "1/1", () -> Parliament.number(x, true, 2));
        x.votes(0, 1, 500);
        x.solve();
        Check.due("1000 times 1 is less than 1 times 1001", Check.NO_ELEMENT, () -> x.number(true, 2, false));
        x.threshold(0);
        x.solve();
        Check.due("nothing is less than 0", "1/1", () -> Parliament.number(x, true, 2));
        TwoWaySeats all = Parliament.of(new int[] {1, 1}, new int[][] {{500, 0}, {500, 0}});
        all.threshold(1000);
        Check.due("all votes are not less than 1000 thousandths", "2 0", () -> Parliament.shares(all));
        all.votes(1, 1, 1);
        Check.due("all but one are", Check.STATE, () -> all.share(0));
        all.threshold(999);
        Check.due("but not less than 999", "2 0", () -> Parliament.shares(all));
    }

    /** ".. the votes of all its lists is less than the THRESHOLD .. times the votes of all lists there are". */
    private static void outByAllLists() {
        TwoWaySeats x = Parliament.of(new int[] {1, 1}, new int[][] {{60, 140}, {0, 0}});
        TwoWaySeats spread = Parliament.of(new int[] {1, 1}, new int[][] {{30, 70}, {30, 70}});
        for (TwoWaySeats each : new TwoWaySeats[] {x, spread}) {
            each.threshold(300);
            Check.due("60 of 200 are 300 thousandths", "1 1", () -> Parliament.shares(each));
            each.threshold(301);
            Check.due("60 of 200 are less than 301 thousandths", "0 2", () -> Parliament.shares(each));
        }
        // Of all lists, those of parties that are out too: 30 of 90 would be 333 thousandths, 30 of 100 are 300.
        TwoWaySeats y = Parliament.single(10, 10, 30, 60);
        y.threshold(301);
        Check.due("those that are out count in the whole", "0 0 10", () -> Parliament.shares(y));
    }

    /** "for all that follows its lists have no votes then". */
    private static void outHasNoVotesInWhatFollows() {
        TwoWaySeats x = Parliament.of(new int[] {1, 2}, new int[][] {{10, 10}, {0, 20}});
        x.threshold(251);
        Check.due("out: no share", "0 3", () -> Parliament.shares(x));
        Check.due("out: the others have it all", true, x::solve);
        Check.due("out: no seats", "0 1 / 0 2", () -> Parliament.table(x, false));
        Check.due("out: no number", Check.NO_ELEMENT, () -> x.number(true, 0, true));
        x.propose(0, 0, 1);
        Check.due("out: no seats proposed", 1, x::judge);
        x.threshold(250);
        Check.due("not out: a share", "1 2", () -> Parliament.shares(x));
        x.solve();
        Check.due("not out: seats", "1 0 / 0 2", () -> Parliament.table(x, false));
        // Weighed, both parties have the weight 10, but the votes are 10 and 20.
        TwoWaySeats even = Parliament.of(new int[] {1, 2}, new int[][] {{10, 0}, {0, 20}});
        even.weigh(true);
        Check.due("not out: tied", "11", () -> Parliament.ties(even));
        even.threshold(334);
        Check.due("out: not tied", "00", () -> Parliament.ties(even));
        even.solve();
        Check.due("out: not in the block", "10 00", () -> Parliament.block(even));
        even.threshold(333);
        even.solve();
        Check.due("not out: in the block", "01 01", () -> Parliament.block(even));
    }

    /** The sentence on OUT speaks of votes, that on THE WEIGHT comes after it. */
    private static void outIsNotWeighed() {
        TwoWaySeats x = Parliament.of(new int[] {1, 4}, new int[][] {{10, 0}, {0, 30}});
        x.weigh(true);
        x.threshold(250);
        Check.due("10 of 40 votes are enough", "3 2", () -> Parliament.shares(x));
        x.threshold(251);
        Check.due("10 of 40 votes are too few", "0 5", () -> Parliament.shares(x));
    }

    /** "of the votes of each list divided by the seats of its district". */
    private static void weightIsAFraction() {
        // 7 / 3 + 1 / 6 is 5 / 2, which no rounding keeps.
        TwoWaySeats x = Parliament.of(new int[] {3, 6, 2}, new int[][] {{7, 0}, {1, 0}, {0, 5}});
        x.weigh(true);
        Check.due("7 / 3 + 1 / 6 is 5 / 2", "11", () -> Parliament.ties(x));
        Check.due("7 / 3 + 1 / 6 is 5 / 2, shares", "6 5", () -> Parliament.shares(x));
        x.votes(1, 0, 2);
        Check.due("7 / 3 + 2 / 6 is more than 5 / 2", "00", () -> Parliament.ties(x));
        TwoWaySeats one = Parliament.of(new int[] {1, 1}, new int[][] {{7, 0}, {0, 5}});
        one.weigh(true);
        Check.due("divided by 1 it stays", "1 1", () -> Parliament.shares(one));
    }

    /** "of several to the first one in the ORDER: parties with a POSITION .. by these, then the others ..". */
    private static void sharesInTheOrder() {
        TwoWaySeats x = Parliament.single(3, 7, 7, 7, 7);
        Check.due("at first none has a position", "1 1 1 0", () -> Parliament.shares(x));
        x.lot(3, 3);
        Check.due("the last position is before none", "1 1 0 1", () -> Parliament.shares(x));
        x.lot(2, 2);
        Check.due("two positions, then the others", "1 0 1 1", () -> Parliament.shares(x));
        x.lot(0, 1);
        Check.due("three positions", "0 1 1 1", () -> Parliament.shares(x));
        x.lot(1, 0);
        Check.due("all positions", "1 1 1 0", () -> Parliament.shares(x));
        x.votes(0, 3, 8);
        Check.due("the greater weight is before all positions", "1 1 0 1", () -> Parliament.shares(x));
    }

    /** A weight of 0 is never greatest, as long as there is something to share. */
    private static void sharesWithoutWeight() {
        TwoWaySeats x = Parliament.single(20, 0, 1, 0);
        x.lot(0, 0);
        Check.due("no weight, but a position", "0 20 0", () -> Parliament.shares(x));
    }

    /** "If there is no district, or no party with a weight above 0, there is NOTHING TO SHARE." */
    private static void nothingToShare() {
        TwoWaySeats noDistrict = new TwoWaySeats();
        noDistrict.party();
        nothing("no district", noDistrict);
        TwoWaySeats noParty = new TwoWaySeats();
        noParty.district(20);
        nothing("no party", noParty);
        nothing("no votes", Parliament.single(20, 0, 0));
        TwoWaySeats allOut = Parliament.single(20, 500, 500);
        allOut.threshold(501);
        nothing("all are out", allOut);
        allOut.threshold(500);
        Check.due("none is out", "10 10", () -> Parliament.shares(allOut));
        TwoWaySeats noMore = Parliament.single(20, 0, 1);
        noMore.solve();
        noMore.votes(0, 1, 0);
        nothing("no votes any more", noMore);
        TwoWaySeats weighed = Parliament.of(new int[] {1, 19}, new int[][] {{0}, {1}});
        weighed.weigh(true);
        Check.due("a weight of 1 / 19 is above 0", "20", () -> Parliament.shares(weighed));
        Check.due("a weight of 1 / 19, tied", "0", () -> Parliament.ties(weighed));
        Check.due("a weight of 1 / 19, solve", false, weighed::solve);
        Check.due("a weight of 1 / 19, judge", 2, weighed::judge);
    }

    private static void nothing(String why, TwoWaySeats x) {
        Check.due("share, " + why, Check.STATE, () -> x.share(0));
        Check.due("tied, " + why, Check.STATE, () -> x.tied(0));
        Check.due("solve, " + why, Check.STATE, x::solve);
        Check.due("judge, " + why, Check.STATE, x::judge);
    }

    /** "A party is TIED, if there is another one such that one of the two has seats .. and this is above 0." */
    private static void tiedHasSeats() {
        Check.due("neither of the equal has seats", "000", () -> Parliament.ties(Parliament.single(1, 80, 30, 30)));
        Check.due("one of them has", "011", () -> Parliament.ties(Parliament.single(2, 80, 30, 30)));
        Check.due("both have", "000", () -> Parliament.ties(Parliament.single(4, 80, 30, 30)));
        Check.due("0 is not above 0", "000", () -> Parliament.ties(Parliament.single(20, 500, 0, 0)));
        Check.due("there is no other one", "0", () -> Parliament.ties(Parliament.single(20, 500)));
    }

    /** "weight / (2 * share - 1) of that one is weight / (2 * share + 1) of the other one". */
    private static void tiedJustSo() {
        Check.due("100 / 5 is 60 / 3", "11", () -> Parliament.ties(Parliament.single(4, 100, 60)));
        Check.due("101 / 5 is more than 60 / 3", "00", () -> Parliament.ties(Parliament.single(4, 101, 60)));
        Check.due("100 / 5 is less than 61 / 3", "00", () -> Parliament.ties(Parliament.single(4, 100, 61)));
        Check.due("500 / 39 is more than 12", "00", () -> Parliament.ties(Parliament.single(20, 500, 12)));
        Check.due("468 / 39 is 12", "11", () -> Parliament.ties(Parliament.single(20, 468, 12)));
        Check.due("468 / 39 is 12, shares", "20 0", () -> Parliament.shares(Parliament.single(20, 468, 12)));
    }

    /** "It FITS, if the lists of each district have its seats together, those of each party its share, ..". */
    private static void fits() {
        TwoWaySeats x = Parliament.of(new int[] {2, 1}, new int[][] {{20, 10}, {0, 10}});
        Check.due("shares", "2 1", () -> Parliament.shares(x));
        Check.due("only one table fits", true, x::solve);
        Check.due("it leaves the list without votes none", "2 0 / 0 1", () -> Parliament.table(x, false));
        Check.due("so it is the last one too", "2 0 / 0 1", () -> Parliament.table(x, true));
        x.votes(0, 0, 0);
        x.votes(1, 0, 20);
        Check.due("now none fits", false, x::solve);
    }

    /** "That can be done in a table, if .. all the latter [have] seats." */
    private static void ringNeedsSeats() {
        // If lists could have less than none, the gain would be 500 * 500 / 25 times (-1) * (-1).
        TwoWaySeats x = Parliament.of(new int[] {2, 2}, new int[][] {{500, 1}, {1, 500}});
        Parliament.propose(x, new int[][] {{2, 0}, {0, 2}});
        Check.due("lists without seats lose none", 0, x::judge);
        x.solve();
        Check.due("lists without seats lose none, table", "2 0 / 0 2", () -> Parliament.table(x, false));
        Check.due("lists without seats lose none, unique", true, x::unique);
    }

    /** "That can be done in a table, if all the former have votes". */
    private static void ringNeedsVotes() {
        TwoWaySeats x = Parliament.of(new int[] {1, 1}, new int[][] {{0, 5}, {5, 5}});
        Parliament.propose(x, new int[][] {{0, 1}, {1, 0}});
        Check.due("a list without votes gets none", 0, x::judge);
        x.solve();
        Check.due("a list without votes gets none, unique", true, x::unique);
        x.votes(0, 0, 5);
        Check.due("with votes it could", 0, x::judge);
        x.solve();
        Check.due("with votes it could, unique", false, x::unique);
        x.votes(0, 0, 6);
        Check.due("with more votes it does", 4, x::judge);
    }

    /** "A RING is two or more districts d1, d2, .. dk, all different, and as many parties". */
    private static void ringIsTwoOrMore() {
        TwoWaySeats single = Parliament.single(3, 500, 1);
        Parliament.propose(single, new int[][] {{3, 0}});
        Check.due("one district has no ring", 0, single::judge);
        TwoWaySeats oneParty = Parliament.of(new int[] {1, 2}, new int[][] {{1}, {500}});
        Parliament.propose(oneParty, new int[][] {{1}, {2}});
        Check.due("one party has no ring", 0, oneParty::judge);
        TwoWaySeats two = Parliament.of(new int[] {1, 1}, new int[][] {{1, 2}, {2, 1}});
        Parliament.propose(two, new int[][] {{1, 0}, {0, 1}});
        Check.due("a ring of two", 4, two::judge);
        TwoWaySeats four = Parliament.of(new int[] {1, 1, 1, 1},
                new int[][] {{1, 0, 2, 0}, {0, 1, 0, 2}, {0, 2, 1, 0}, {2, 0, 0, 1}});
        Parliament.propose(four, new int[][] {{1, 0, 0, 0}, {0, 1, 0, 0}, {0, 0, 1, 0}, {0, 0, 0, 1}});
        Check.due("only a ring of four, crossed", 4, four::judge);
    }

    /** "A table OBEYS, if it fits, and no ring along which one can go has a gain above 1." */
    private static void gainOfOne() {
        TwoWaySeats x = Parliament.of(new int[] {3, 1}, new int[][] {{90, 30}, {60, 20}});
        Check.due("shares", "3 1", () -> Parliament.shares(x));
        Parliament.propose(x, new int[][] {{2, 1}, {1, 0}});
        Check.due("a gain of 90 / 5 * 20 / 1 * 1 / 60 * 1 / 30", 0, x::judge);
        Parliament.propose(x, new int[][] {{3, 0}, {0, 1}});
        Check.due("a gain of 30 / 1 * 60 / 1 * 1 / 20 * 5 / 90", 4, x::judge);
        TwoWaySeats even = Parliament.of(new int[] {1, 1}, new int[][] {{499, 500}, {499, 500}});
        Parliament.propose(even, new int[][] {{1, 0}, {0, 1}});
        Check.due("a gain of 1", 0, even::judge);
        Parliament.propose(even, new int[][] {{0, 1}, {1, 0}});
        Check.due("a gain of 1 the other way", 0, even::judge);
        even.votes(0, 0, 500);
        Check.due("a gain of 500 / 499", 4, even::judge);
        even.votes(0, 0, 498);
        Check.due("a gain of 498 / 499", 0, even::judge);
    }

    /** "(lists by district, those of one district by party)". */
    private static void firstByDistrict() {
        TwoWaySeats x = Parliament.of(new int[] {1, 1, 1}, new int[][] {{0, 6, 6}, {6, 0, 6}, {6, 6, 0}});
        x.solve();
        // Were they taken by party first, these two would change places.
        Check.due("the first by district", "0 1 0 / 0 0 1 / 1 0 0", () -> Parliament.table(x, false));
        Check.due("the last by district", "0 0 1 / 1 0 0 / 0 1 0", () -> Parliament.table(x, true));
        TwoWaySeats y = Parliament.of(new int[] {1, 1, 1}, new int[][] {{6, 0, 0}, {0, 6, 6}, {0, 6, 6}});
        y.solve();
        Check.due("the first list for which they differ", "1 0 0 / 0 1 0 / 0 0 1", () -> Parliament.table(y, false));
        Check.due("the first such list, last", "1 0 0 / 0 0 1 / 0 1 0", () -> Parliament.table(y, true));
    }

    /** "that which has more seats for the first list for which they differ": not only none against one. */
    private static void firstOfListsWithSeats() {
        TwoWaySeats two = Parliament.of(new int[] {5, 5}, new int[][] {{9, 9}, {9, 9}});
        firstAndLast("two or three", "3 2 / 2 3", "2 3 / 3 2", two);
        TwoWaySeats three = Parliament.of(new int[] {4, 4, 4}, new int[][] {{9, 9, 9}, {9, 9, 9}, {9, 9, 9}});
        firstAndLast("one or two", "2 1 1 / 1 2 1 / 1 1 2", "1 1 2 / 1 2 1 / 2 1 1", three);
        TwoWaySeats ring = Parliament.of(new int[] {3, 3, 3}, new int[][] {{9, 9, 0}, {0, 9, 9}, {9, 0, 9}});
        firstAndLast("one ring", "2 1 0 / 0 2 1 / 1 0 2", "1 2 0 / 0 1 2 / 2 0 1", ring);
        TwoWaySeats back = Parliament.of(new int[] {3, 3, 3}, new int[][] {{9, 0, 9}, {9, 9, 0}, {0, 9, 9}});
        firstAndLast("the ring turned round", "2 0 1 / 1 2 0 / 0 1 2", "1 0 2 / 2 1 0 / 0 2 1", back);
        TwoWaySeats most = Parliament.of(new int[] {5, 5, 5, 5},
                new int[][] {{7, 7, 7, 7}, {7, 7, 7, 7}, {7, 7, 7, 7}, {7, 7, 7, 7}});
        firstAndLast("all lists", "2 1 1 1 / 1 2 1 1 / 1 1 2 1 / 1 1 1 2",
                "1 1 1 2 / 1 1 2 1 / 1 2 1 1 / 2 1 1 1", most);
    }

    private static void firstAndLast(String what, String first, String last, TwoWaySeats x) {
        Check.due(what + " can be solved", true, x::solve);
        Check.due(what + ", the first", first, () -> Parliament.table(x, false));
        Check.due(what + ", the last", last, () -> Parliament.table(x, true));
        Check.due(what + ", more than one", false, x::unique);
    }

    /** "(for a district also 1, for no way)". */
    private static void numberOfNoWay() {
        TwoWaySeats x = Parliament.single(3, 100);
        x.solve();
        // To the party and back is 100 / 7 * 5 / 100, less than 1.
        Check.due("no way is more", "1/1", () -> Parliament.number(x, false, 0));
        TwoWaySeats y = Parliament.of(new int[] {1, 1}, new int[][] {{30}, {10}});
        y.solve();
        Check.due("district 0: no way is more than 1 / 9", "1/1", () -> Parliament.number(y, false, 0));
        Check.due("district 1: 30 / 3 * 1 / 10 is just 1", "1/1", () -> Parliament.number(y, false, 1));
        y.votes(0, 0, 31);
        y.solve();
        Check.due("district 1: 31 / 3 * 1 / 10 is more", "31/30", () -> Parliament.number(y, false, 1));
    }

    /** "a party to which there is no way has none". */
    private static void numberOfNoParty() {
        TwoWaySeats x = Parliament.of(new int[] {1, 1}, new int[][] {{500, 0}, {500, 0}});
        x.solve();
        Check.due("no list with votes", Check.NO_ELEMENT, () -> x.number(true, 1, false));
        x.votes(1, 1, 1);
        x.solve();
        Check.due("one vote makes a way", "1/1", () -> Parliament.number(x, true, 1));
    }

    /** "(So votes times the district's number, divided by the party's, are from 2 * s - 1 to 2 * s + 1 ..)". */
    private static void numbersAreTheProof() {
        int[][] tie = {{10, 10}, {10, 10}};
        TwoWaySeats x = Parliament.of(new int[] {1, 1}, tie);
        x.solve();
        Check.due("both ends are met", "1 1 / 1 1", () -> quotients(x, tie));
        int[][] votes = {{499, 241, 3, 77}, {13, 251, 239, 500}, {1, 0, 257, 263}, {180, 9, 31, 233}};
        TwoWaySeats y = Parliament.of(new int[] {5, 4, 5, 6}, votes);
        Check.due("20 seats for 16 lists", true, y::solve);
        for (int d = 0; d < 4; d++) {
            for (int p = 0; p < 4; p++) {
                if (votes[d][p] > 0) {
                    proves(y, d, p, votes[d][p]);
                }
            }
        }
    }

    private static String quotients(TwoWaySeats x, int[][] votes) {
        StringBuilder text = new StringBuilder();
        for (int d = 0; d < 2; d++) {
            text.append(d > 0 ? " / " : "");
            for (int p = 0; p < 2; p++) {
                long above = votes[d][p] * x.number(false, d, false) * x.number(true, p, true);
                long below = x.number(false, d, true) * x.number(true, p, false);
                text.append(p > 0 ? " " : "").append(above % below == 0 ? above / below : -1);
            }
        }
        return text.toString();
    }

    private static void proves(TwoWaySeats x, int d, int p, int votes) {
        BigInteger above = BigInteger.valueOf(votes).multiply(BigInteger.valueOf(x.number(false, d, false)))
                .multiply(BigInteger.valueOf(x.number(true, p, true)));
        BigInteger below = BigInteger.valueOf(x.number(false, d, true))
                .multiply(BigInteger.valueOf(x.number(true, p, false)));
        long seats = x.seats(d, p, false);
        String list = "list " + d + " " + p;
        Check.due(list + " is not below", true,
                () -> below.multiply(BigInteger.valueOf(2 * seats - 1)).compareTo(above) <= 0);
        Check.due(list + " is not above", true,
                () -> below.multiply(BigInteger.valueOf(2 * seats + 1)).compareTo(above) >= 0);
    }

    /** "of all sets of districts that have more seats together than the shares of all parties together that ..". */
    private static void blockHasMoreSeats() {
        TwoWaySeats x = Parliament.of(new int[] {2, 3}, new int[][] {{40, 0}, {0, 60}});
        Check.due("2 seats are not more than a share of 2", true, x::solve);
        TwoWaySeats y = Parliament.of(new int[] {3, 2}, new int[][] {{40, 0}, {0, 60}});
        Check.due("3 seats are more than a share of 2", false, y::solve);
        Check.due("3 seats are more than a share of 2, block", "10 10", () -> Parliament.block(y));
    }

    /** "that with the least sum of 1 << district". */
    private static void blockIsTheLeast() {
        // Each of the districts 1, 2 and 3 blocks, and all sets with one of them.
        TwoWaySeats x = Parliament.of(new int[] {1, 1, 1, 1}, new int[][] {{500, 0}, {0, 1}, {0, 1}, {0, 1}});
        Check.due("three blocks", false, x::solve);
        Check.due("district 1 has the least", "0100 01", () -> Parliament.block(x));
        // Party 0 has a share of 2 of 5: districts 0, 1 and 2 have one seat more, 3 has two seats and no votes.
        TwoWaySeats y = Parliament.of(new int[] {1, 1, 1, 2}, new int[][] {{20, 0}, {10, 0}, {10, 0}, {0, 60}});
        Check.due("shares", "2 3", () -> Parliament.shares(y));
        Check.due("three together", false, y::solve);
        Check.due("three together block", "1110 10", () -> Parliament.block(y));
        y.votes(3, 1, 0);
        y.votes(0, 1, 60);
        Check.due("a district without votes", false, y::solve);
        Check.due("a district without votes blocks alone", "0001 00", () -> Parliament.block(y));
    }

    /** "the shares of all parties together that have a list with votes in one of them .. and those parties." */
    private static void blockHasPartiesWithVotes() {
        TwoWaySeats x = Parliament.of(new int[] {4, 1}, new int[][] {{1, 2, 0, 0}, {0, 0, 500, 1}});
        Check.due("shares", "0 0 5 0", () -> Parliament.shares(x));
        Check.due("none fits", false, x::solve);
        Check.due("those with votes there, not the others", "10 1100", () -> Parliament.block(x));
    }

    private interface Change {
        void on(TwoWaySeats x);
    }

    /** "Whatever changes something of this (..; also when it says what there is) ends what was SOLVED." */
    private static void changesEndTheSolved() {
        ends("district", x -> x.district(1));
        ends("party", TwoWaySeats::party);
        ends("votes", x -> x.votes(0, 0, 11));
        ends("votes as they are", x -> x.votes(0, 0, 10));
        ends("votes of 0 as they are", x -> x.votes(0, 1, 0));
        ends("weigh", x -> x.weigh(false));
        ends("weigh as it is", x -> x.weigh(true));
        ends("threshold", x -> x.threshold(2));
        ends("threshold as it is", x -> x.threshold(1));
        ends("lot", x -> x.lot(3, 0));
        ends("lot as it is", x -> x.lot(2, 1));
    }

    private static void ends(String what, Change change) {
        for (boolean fits : new boolean[] {true, false}) {
            // The second has a share of 4, but votes in the district with one seat alone.
            TwoWaySeats x = Parliament.of(new int[] {3, 1}, new int[][] {{10, 0}, {fits ? 10 : 0, 500}});
            if (fits) {
                x.votes(1, 1, 2);
            }
            x.weigh(true);
            x.threshold(1);
            x.lot(2, 1);
            Check.due("solved before " + what, fits, x::solve);
            change.on(x);
            Check.due("seats after " + what, Check.STATE, () -> x.seats(0, 0, false));
            Check.due("unique after " + what, Check.STATE, x::unique);
            Check.due("number after " + what, Check.STATE, () -> x.number(false, 0, false));
            Check.due("blocks after " + what, Check.STATE, () -> x.blocks(false, 0));
            Check.dueAct("solved again after " + what, Check.NOTHING, x::solve);
            Check.due("one of them holds after " + what, true, () -> !Check.answer(x::unique).equals(Check.STATE)
                    || !Check.answer(() -> x.blocks(false, 0)).equals(Check.STATE));
        }
    }
}
