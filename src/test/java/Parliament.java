/** Makes objects for the tests. */
final class Parliament {
    private Parliament() {
    }

    /** A new object with districts of these sizes, and a row of votes for each of them. */
    static TwoWaySeats of(int[] sizes, int[][] votes) {
        TwoWaySeats x = new TwoWaySeats();
        for (int size : sizes) {
            x.district(size);
        }
        for (int p = 0; p < votes[0].length; p++) {
            x.party();
        }
        for (int d = 0; d < votes.length; d++) {
            for (int p = 0; p < votes[d].length; p++) {
                x.votes(d, p, votes[d][p]);
            }
        }
        return x;
    }

    /** One district with a party for each of the numbers of votes. */
    static TwoWaySeats single(int size, int... votes) {
        return of(new int[] {size}, new int[][] {votes});
    }

    static void propose(TwoWaySeats x, int[][] table) {
        for (int d = 0; d < table.length; d++) {
            for (int p = 0; p < table[d].length; p++) {
                x.propose(d, p, table[d][p]);
            }
        }
    }

    /** The shares of all parties as a text. */
    static String shares(TwoWaySeats x) {
        StringBuilder text = new StringBuilder();
        for (int p = 0; p < x.count(true); p++) {
            text.append(p > 0 ? " " : "").append(x.share(p));
        }
        return text.toString();
    }

    /** Which parties are tied. */
    static String ties(TwoWaySeats x) {
        StringBuilder text = new StringBuilder();
        for (int p = 0; p < x.count(true); p++) {
            text.append(x.tied(p) ? "1" : "0");
        }
        return text.toString();
    }

    /** The first table, or the last one, as a text. */
    static String table(TwoWaySeats x, boolean last) {
        StringBuilder text = new StringBuilder();
        for (int d = 0; d < x.count(false); d++) {
            text.append(d > 0 ? " / " : "");
            for (int p = 0; p < x.count(true); p++) {
                text.append(p > 0 ? " " : "").append(x.seats(d, p, last));
            }
        }
        return text.toString();
    }

    static String number(TwoWaySeats x, boolean party, int k) {
        return x.number(party, k, false) + "/" + x.number(party, k, true);
    }

    /** All that can be asked without solving, in some 70 calls. */
    static String everything(TwoWaySeats x) {
        StringBuilder text = new StringBuilder();
        text.append(x.count(false)).append(' ').append(x.count(true)).append(' ').append(Check.answer(x::judge));
        text.append(' ').append(Check.answer(x::unique));
        for (int k = 0; k < 4; k++) {
            int at = k;
            text.append(' ').append(Check.answer(() -> x.share(at))).append(' ').append(Check.answer(() -> x.tied(at)));
            for (int p = 0; p < 4; p++) {
                int party = p;
                text.append(' ').append(Check.answer(() -> x.seats(at, party, false)));
                text.append(' ').append(Check.answer(() -> x.seats(at, party, true)));
            }
            for (boolean party : new boolean[] {false, true}) {
                text.append(' ').append(Check.answer(() -> number(x, party, at)));
                text.append(' ').append(Check.answer(() -> x.blocks(party, at)));
            }
        }
        return text.toString();
    }

    /** The districts, then the parties of the block. */
    static String block(TwoWaySeats x) {
        StringBuilder text = new StringBuilder();
        for (int d = 0; d < x.count(false); d++) {
            text.append(x.blocks(false, d) ? "1" : "0");
        }
        text.append(' ');
        for (int p = 0; p < x.count(true); p++) {
            text.append(x.blocks(true, p) ? "1" : "0");
        }
        return text.toString();
    }
}
