/** Auctions that several tests begin with, and what they look at. */
final class Runs {
    /** Makes the same auction each time, so that a refused call can be held against none. */
    interface Maker {
        LetterAuction make();
    }

    /** A call on an auction. */
    interface Act {
        void on(LetterAuction x);
    }

    static final int GREATEST_POST = 45;

    private Runs() {
    }

    /** Crew 0 has worths 5 and 3, crew 1 has 4 and 0: the best is 3 and 4. */
    static LetterAuction pair(int phases) {
        return auction(2, phases, 0, 0, 5, 0, 1, 3, 1, 0, 4);
    }

    /** Worths as crew, job, worth, crew, job, worth and so on; the others are 0. */
    static LetterAuction auction(int n, int phases, int... worths) {
        LetterAuction x = new LetterAuction(n, phases);
        for (int i = 0; i < worths.length; i += 3) {
            x.worth(worths[i], worths[i + 1], worths[i + 2]);
        }
        return x;
    }

    /** Crew 0 holds job 0 by its bid 1 at price 7; crew 1's bid 1 of 13 for it is letter 0. */
    static LetterAuction contested() {
        LetterAuction x = pair(0);
        x.act(0);
        x.act(1);
        x.deliver(0);
        x.deliver(1);
        return x;
    }

    /** A pair that is settled in this phase (0 the first of four), without letters. */
    static LetterAuction settledPair(int phase) {
        LetterAuction x = pair(1);
        settle(x, 2);
        for (int i = 0; i < phase; i++) {
            x.phase();
            settle(x, 2);
        }
        return x;
    }

    /** Three crews without worths, done at prices 1, 1 and 2 of jobs 0, 1 and 2. */
    static LetterAuction doneThree() {
        LetterAuction x = new LetterAuction(3, 0);
        actInTurn(x, 0, 1, 1, 2, 2, 2);
        return x;
    }

    /** From 2 to 40 letters, all bids for job 0: crews 0 and 1 wait, crew 2 is free. */
    static LetterAuction postOf(int letters) {
        LetterAuction x = auction(3, 0, 1, 0, 10);
        x.act(0);
        x.act(1);
        for (int i = 2; i < letters; i++) {
            x.twin(0);
        }
        return x;
    }

    /** 41 letters: 38 bids, then YES and LOSS for crew 0 and YES for crew 1; crew 2 is free. */
    static LetterAuction postOf41() {
        LetterAuction x = postOf(40);
        x.deliver(0);
        x.deliver(0);
        return x;
    }

    /** As many letters as there can be: each crew's bid comes when 40 are there, and outbids. */
    static LetterAuction greatestPost() {
        LetterAuction x = new LetterAuction(6, 0);
        for (int crew = 0; crew < 6; crew++) {
            x.worth(crew, 0, 10 * crew);
        }
        for (int crew = 0; crew < 6; crew++) {
            x.act(crew);
        }
        for (int i = 6; i < 40; i++) {
            x.twin(0);
        }
        for (int crew = 0; crew < 6; crew++) {
            x.deliver(0);
        }
        return x;
    }

    /** Each of these crews bids, and all letters come, before the next one does. */
    static void actInTurn(LetterAuction x, int... crews) {
        for (int crew : crews) {
            x.act(crew);
            deliverAll(x);
        }
    }

    static void deliverAll(LetterAuction x) {
        // Letters that never end are a fault to tell, not one to wait for.
        for (int i = 0; i < 1000 && x.letters() > 0; i++) {
            x.deliver(0);
        }
        if (x.letters() > 0) {
            throw new IllegalStateException("letters do not end");
        }
    }

    static void settle(LetterAuction x, int n) {
        for (int round = 0; round < 1000 && !x.settled(); round++) {
            for (int crew = 0; crew < n; crew++) {
                if (x.crew(crew, 0) == 0) {
                    x.act(crew);
                }
            }
            deliverAll(x);
        }
        Check.yes("settles", x.settled());
    }

    static void letterIs(String what, LetterAuction x, int i, int... due) {
        for (int part = 0; part < due.length; part++) {
            Check.is(what + ", letter " + i + " part " + part, x.letter(i, part), due[part]);
        }
    }

    static void deskIs(String what, LetterAuction x, int job, int... due) {
        for (int part = 0; part < due.length; part++) {
            Check.is(what + ", desk " + job + " part " + part, x.desk(job, part), due[part]);
        }
    }

    static void crewIs(String what, LetterAuction x, int crew, int... due) {
        for (int part = 0; part < due.length; part++) {
            Check.is(what + ", crew " + crew + " part " + part, x.crew(crew, part), due[part]);
        }
    }

    static void refusesArgument(String what, Maker maker, Act call) {
        refuses(what, "throws.IllegalArgumentException", maker, call);
    }

    static void refusesState(String what, Maker maker, Act call) {
        refuses(what, "throws.IllegalStateException", maker, call);
    }

    static void refusesIndex(String what, Maker maker, Act call) {
        refuses(what, "throws.IndexOutOfBoundsException", maker, call);
    }

    private static void refuses(String what, String exception, Maker maker, Act call) {
        LetterAuction asked = maker.make();
        Check.same(what, Check.thrownBy(() -> call.on(asked)), exception);
        Check.same(what + " then the state", stateOf(asked), stateOf(maker.make()));
    }

    static void takes(String what, Maker maker, Act call) {
        LetterAuction asked = maker.make();
        Check.same(what, Check.thrownBy(() -> call.on(asked)), "0");
    }

    /** All that can be seen from outside. */
    static String stateOf(LetterAuction x) {
        StringBuilder text = new StringBuilder();
        int n = sizeOf(x);
        for (int i = 0; i < n; i++) {
            addRow(text.append(" crew"), 4, i, x::crew);
            addRow(text.append(" desk"), 3, i, x::desk);
            addRow(text.append(" known"), n, i, x::known);
        }
        int letters = x.letters();
        for (int i = 0; i < letters; i++) {
            addRow(text.append(" letter"), 5, i, x::letter);
        }
        addRow(text.append(" count"), 5, 0, (row, which) -> x.count(which));
        text.append(" total ").append(Check.outcome(x::total));
        text.append(" proves ").append(Check.outcome(() -> x.proves() ? 1 : 0));
        return text.toString();
    }

    private interface Look {
        int at(int row, int what);
    }

    private static void addRow(StringBuilder text, int length, int row, Look look) {
        for (int what = 0; what < length; what++) {
            text.append(' ').append(look.at(row, what));
        }
    }

    static int sizeOf(LetterAuction x) {
        int n = 0;
        while (Check.thrownBy(lookAtCrew(x, n)).equals("0")) {
            n++;
        }
        return n;
    }

    private static Check.Deed lookAtCrew(LetterAuction x, int crew) {
        return () -> x.crew(crew, 0);
    }
}
