/** Each sentence of the promises that names a boundary case, with its neighbours. */
public final class PromiseBoundaryTest {
    private static final int NONE = LetterAuction.NONE;
    private static final int LEAST = Integer.MIN_VALUE;
    private static final int GREATEST = Integer.MAX_VALUE;

    private PromiseBoundaryTest() {
    }

    public static void main(String[] args) {
        newObjects();
        worths();
        acts();
        resends();
        deliveries();
        losses();
        twins();
        looksAtLetters();
        looksAtCrewsAndDesks();
        looksAtTheAuction();
        Check.end();
    }

    // Promise 1

    private static void newObjects() {
        Check.sentence("P1: N crews and jobs (at least 2, at most 6)",
                PromiseBoundaryTest::sizes);
        Check.sentence("P1: with a phase of 1 alone when phases is 0, else with those of 64, 16, 4"
                + " and 1.", PromiseBoundaryTest::phasesOfANewObject);
    }

    private static void sizes() {
        int[][] sizes = {{LEAST, 2}, {-1, 2}, {0, 2}, {1, 2}, {2, 2}, {3, 3}, {4, 4}, {5, 5},
            {6, 6}, {7, 6}, {8, 6}, {GREATEST, 6}};
        for (int[] size : sizes) {
            int n = size[1];
            Runs.Maker maker = () -> new LetterAuction(size[0], 0);
            Check.is("crews of " + size[0], Runs.sizeOf(maker.make()), n);
            Runs.takes("the last job of " + size[0], maker, x -> x.desk(n - 1, 0));
            Runs.refusesArgument("no job more of " + size[0], maker, x -> x.desk(n, 0));
            LetterAuction x = Runs.auction(size[0], 0, 0, 0, 1);
            Check.is("scaled by crews and 1 of " + size[0], x.crew(0, 3), n + 1);
        }
    }

    private static void phasesOfANewObject() {
        for (int phases : new int[] {LEAST, -1, 1, 2, 4, GREATEST}) {
            LetterAuction x = Runs.pair(phases);
            Check.is("the first of " + phases, x.count(4), 64);
            for (int step : new int[] {16, 4, 1}) {
                Runs.settle(x, 2);
                Check.is("the next of " + phases, x.phase(), step);
            }
            Runs.settle(x, 2);
            Check.badState("no fifth of " + phases, x::phase);
        }
        LetterAuction x = Runs.pair(0);
        Check.is("1 alone", x.count(4), 1);
        Runs.settle(x, 2);
        Check.badState("no second", x::phase);
    }

    // Promise 2

    private static void worths() {
        Check.sentence("P2: IllegalArgumentException: there is no such crew or job",
                PromiseBoundaryTest::worthOfNoCrewOrJob);
        Check.sentence("P2: or worth is not 0 .. 1000", PromiseBoundaryTest::worthOutOfRange);
        Check.sentence("P2: IllegalStateException: some crew has bid already, and the auction is"
                + " not done.", PromiseBoundaryTest::worthAfterABid);
        Check.sentence("P2: (Letters that are on their way go, when it is done.)",
                PromiseBoundaryTest::lettersGoWhenDone);
    }

    private static Runs.Maker[] stages() {
        return new Runs.Maker[] {() -> new LetterAuction(3, 0), () -> Runs.postOf(3),
            Runs::doneThree};
    }

    private static void worthOfNoCrewOrJob() {
        for (Runs.Maker maker : stages()) {
            for (int out : new int[] {LEAST, -1, 3, 4, GREATEST}) {
                Runs.refusesArgument("crew " + out, maker, x -> x.worth(out, 0, 1000));
                Runs.refusesArgument("job " + out, maker, x -> x.worth(0, out, 1000));
                Runs.refusesArgument("both " + out, maker, x -> x.worth(out, out, 1000));
            }
        }
        for (int in : new int[] {0, 1, 2}) {
            Runs.takes("crew " + in, () -> new LetterAuction(3, 0), x -> x.worth(in, 0, 1000));
            Runs.takes("job " + in, Runs::doneThree, x -> x.worth(0, in, 1000));
        }
    }

    private static void worthOutOfRange() {
        for (Runs.Maker maker : stages()) {
            for (int out : new int[] {LEAST, -1, 1001, GREATEST}) {
                Runs.refusesArgument("worth " + out, maker, x -> x.worth(1, 1, out));
            }
        }
        for (int in : new int[] {0, 1, 999, 1000}) {
            Runs.takes("worth " + in, () -> new LetterAuction(3, 0), x -> x.worth(1, 1, in));
            Runs.takes("worth " + in + ", done", Runs::doneThree, x -> x.worth(1, 1, in));
        }
    }

    private static void worthAfterABid() {
        Runs.takes("no bid", () -> Runs.pair(0), x -> x.worth(1, 0, 1000));
        Runs.takes("refused bids alone", () -> {
            LetterAuction x = Runs.pair(0);
            Check.badArgument("no such crew", () -> x.act(2));
            Check.badState("never bid", () -> x.resend(0));
            return x;
        }, x -> x.worth(1, 0, 1000));
        Runs.Maker oneBid = () -> {
            LetterAuction x = Runs.pair(0);
            x.act(0);
            return x;
        };
        Runs.refusesState("one bid, of that crew", oneBid, x -> x.worth(0, 0, 1000));
        Runs.refusesState("one bid, of another crew", oneBid, x -> x.worth(1, 0, 1000));
        Runs.refusesState("the only bid is lost", () -> {
            LetterAuction x = oneBid.make();
            x.lose(0);
            return x;
        }, x -> x.worth(1, 0, 1000));
        Runs.refusesState("one of two holds", Runs::contested, x -> x.worth(0, 0, 1000));
        Runs.refusesState("settled, with phases left", () -> Runs.settledPair(2),
                x -> x.worth(0, 0, 1000));
        Runs.takes("done", () -> Runs.settledPair(3), x -> x.worth(0, 0, 1000));
    }

    private static void lettersGoWhenDone() {
        for (int letters : new int[] {0, 1, 2, 39, 40}) {
            LetterAuction x = Runs.doneThree();
            for (int i = 0; i < letters; i++) {
                x.resend(i % 3);
            }
            Check.is("letters before", x.letters(), letters);
            x.worth(1, 1, 5);
            Check.is("letters go", x.letters(), 0);
            Check.is("a bid is the first letter then", x.act(1), 1);
            Runs.letterIs("a bid is the first letter then", x, 0, 0, 1, 1, 3);
        }
        LetterAuction refused = Runs.doneThree();
        refused.resend(0);
        Check.badArgument("worth 1001", () -> refused.worth(1, 1, 1001));
        Check.is("a refused worth leaves them", refused.letters(), 1);
    }

    // Promise 3

    private static void acts() {
        Check.sentence("P3: A free crew bids: its target.", PromiseBoundaryTest::firstAndLastCrew);
        Check.sentence("P3: IllegalArgumentException: there is no such crew",
                PromiseBoundaryTest::actOfNoCrew);
        Check.sentence("P3: IllegalStateException: it is not free",
                PromiseBoundaryTest::actOfACrewThatIsNotFree);
        Check.sentence("P3: or 40 letters or more are on their way.",
                PromiseBoundaryTest::actInAFullPost);
    }

    private static void firstAndLastCrew() {
        for (int n = 2; n <= 6; n++) {
            LetterAuction x = Runs.auction(n, 0, 0, n - 1, 1, n - 1, 0, 1);
            Check.is("the first crew, the last job", x.act(0), n - 1);
            Check.is("the last crew, the first job", x.act(n - 1), 0);
        }
    }

    private static void actOfNoCrew() {
        for (int out : new int[] {LEAST, -1, 3, 4, GREATEST}) {
            Runs.refusesArgument("at first", () -> new LetterAuction(3, 0), x -> x.act(out));
            Runs.refusesArgument("39 letters", () -> Runs.postOf(39), x -> x.act(out));
            Runs.refusesArgument("40 letters", () -> Runs.postOf(40), x -> x.act(out));
        }
    }

    private static void actOfACrewThatIsNotFree() {
        Runs.refusesState("it waits", Runs::contested, x -> x.act(1));
        Runs.refusesState("it holds", Runs::contested, x -> x.act(0));
        Runs.refusesState("it waits, and its bid is lost", () -> {
            LetterAuction x = Runs.pair(0);
            x.act(0);
            x.lose(0);
            return x;
        }, x -> x.act(0));
        Runs.takes("it is free again", () -> {
            LetterAuction x = Runs.contested();
            x.deliver(0);
            x.deliver(0);
            return x;
        }, x -> x.act(0));
    }

    private static void actInAFullPost() {
        for (int letters : new int[] {38, 39}) {
            LetterAuction x = Runs.postOf(letters);
            Check.is(letters + " letters", x.act(2), 0);
            Check.is(letters + " letters and one", x.letters(), letters + 1);
        }
        Runs.refusesState("40 letters", () -> Runs.postOf(40), x -> x.act(2));
        Runs.refusesState("41 letters", Runs::postOf41, x -> x.act(2));
        Runs.refusesState("the most letters", PromiseBoundaryTest::greatestPostWithAFreeCrew,
                x -> x.act(0));
        Runs.takes("one of 40 is lost", () -> {
            LetterAuction x = Runs.postOf(40);
            x.lose(39);
            return x;
        }, x -> x.act(2));
    }

    private static LetterAuction greatestPostWithAFreeCrew() {
        LetterAuction x = Runs.greatestPost();
        x.deliver(35);
        Runs.crewIs("a LOSS came", x, 0, 0, NONE, 1);
        Check.is("one letter less", x.letters(), Runs.GREATEST_POST - 1);
        return x;
    }

    // Promise 4

    private static void resends() {
        Check.sentence("P4: A crew sends again: how many letters are on their way.",
                PromiseBoundaryTest::resendAnswers);
        Check.sentence("P4: IllegalArgumentException: there is no such crew",
                PromiseBoundaryTest::resendOfNoCrew);
        Check.sentence("P4: IllegalStateException: it is free",
                PromiseBoundaryTest::resendOfAFreeCrew);
        Check.sentence("P4: or 40 letters or more are on their way.",
                PromiseBoundaryTest::resendInAFullPost);
    }

    private static void resendAnswers() {
        LetterAuction x = Runs.pair(0);
        x.act(0);
        x.lose(0);
        Check.is("the only letter", x.resend(0), 1);
        Check.is("the second letter", x.resend(0), 2);
        LetterAuction y = new LetterAuction(6, 0);
        y.act(0);
        y.act(5);
        Check.is("the last crew", y.resend(5), 3);
        Runs.letterIs("its bid is last", y, 2, 0, 5, 0, 1, 1);
    }

    private static void resendOfNoCrew() {
        for (int out : new int[] {LEAST, -1, 3, 4, GREATEST}) {
            Runs.refusesArgument("at first", () -> new LetterAuction(3, 0), x -> x.resend(out));
            Runs.refusesArgument("39 letters", () -> Runs.postOf(39), x -> x.resend(out));
            Runs.refusesArgument("40 letters", () -> Runs.postOf(40), x -> x.resend(out));
        }
    }

    private static void resendOfAFreeCrew() {
        Runs.refusesState("it never bid", () -> Runs.postOf(2), x -> x.resend(2));
        Runs.refusesState("NO came", () -> {
            LetterAuction x = new LetterAuction(3, 0);
            Runs.actInTurn(x, 0, 1);
            return x;
        }, x -> x.resend(1));
        Runs.refusesState("LOSS came", () -> {
            LetterAuction x = Runs.contested();
            x.deliver(0);
            x.deliver(0);
            return x;
        }, x -> x.resend(0));
        Runs.refusesState("a phase began", () -> {
            LetterAuction x = Runs.settledPair(0);
            x.phase();
            return x;
        }, x -> x.resend(0));
        Runs.refusesState("its worth was changed", () -> {
            LetterAuction x = Runs.doneThree();
            x.worth(0, 0, 1);
            return x;
        }, x -> x.resend(0));
        Runs.takes("it waits", Runs::contested, x -> x.resend(1));
        Runs.takes("it holds", Runs::contested, x -> x.resend(0));
    }

    private static void resendInAFullPost() {
        Check.is("38 letters", Runs.postOf(38).resend(0), 39);
        Check.is("39 letters", Runs.postOf(39).resend(0), 40);
        Runs.refusesState("40 letters", () -> Runs.postOf(40), x -> x.resend(0));
        Runs.refusesState("41 letters", Runs::postOf41, x -> x.resend(0));
        Runs.refusesState("the most letters", Runs::greatestPost, x -> x.resend(5));
    }

    // Promises 5 and 6

    private static void deliveries() {
        Check.sentence("P5: Letter i (0 the one that was sent first) comes: its kind.",
                PromiseBoundaryTest::deliverFirstAndLast);
        Check.sentence("P5: IndexOutOfBoundsException: there is none.",
                () -> refusesNoLetter("deliver", LetterAuction::deliver));
    }

    private static void losses() {
        Check.sentence("P6: Letter i is lost: how many are left.",
                PromiseBoundaryTest::loseFirstAndLast);
        Check.sentence("P6: IndexOutOfBoundsException: there is none.",
                () -> refusesNoLetter("lose", LetterAuction::lose));
    }

    /** A call on a letter. */
    private interface LetterAct {
        void on(LetterAuction x, int i);
    }

    private static void refusesNoLetter(String name, LetterAct call) {
        refusesNoLetterOf(name, call, () -> Runs.pair(0), 0);
        refusesNoLetterOf(name, call, () -> {
            LetterAuction x = Runs.pair(0);
            x.act(0);
            return x;
        }, 1);
        refusesNoLetterOf(name, call, () -> Runs.postOf(40), 40);
        refusesNoLetterOf(name, call, Runs::postOf41, 41);
        refusesNoLetterOf(name, call, Runs::greatestPost, Runs.GREATEST_POST);
        refusesNoLetterOf(name + " when all have gone", call, () -> {
            LetterAuction x = Runs.settledPair(0);
            x.resend(0);
            x.phase();
            return x;
        }, 0);
    }

    private static void refusesNoLetterOf(String name, LetterAct call, Runs.Maker maker, int n) {
        for (int out : new int[] {LEAST, -1, n, n + 1, GREATEST}) {
            Runs.refusesIndex(name + " " + out + " of " + n, maker, x -> call.on(x, out));
        }
    }

    private static void deliverFirstAndLast() {
        LetterAuction one = Runs.pair(0);
        one.act(0);
        Check.is("the only one, a bid", one.deliver(0), 0);
        Check.is("the only one, a YES", one.deliver(0), 1);
        Check.is("none is left", one.letters(), 0);
        Check.is("the first of 40", Runs.postOf(40).deliver(0), 0);
        Check.is("the last of 40", Runs.postOf(40).deliver(39), 0);
        Check.is("the last bid of 41", Runs.postOf41().deliver(37), 0);
        Check.is("a YES of 41", Runs.postOf41().deliver(38), 1);
        Check.is("a LOSS of 41", Runs.postOf41().deliver(39), 3);
        Check.is("the last of 41", Runs.postOf41().deliver(40), 1);
        LetterAuction most = Runs.greatestPost();
        Check.is("the first of the most", most.deliver(0), 0);
        Check.is("a NO in its place", most.letters(), Runs.GREATEST_POST);
        Check.is("the last of the most, that NO", most.deliver(Runs.GREATEST_POST - 1), 2);
        Check.is("one less", most.letters(), Runs.GREATEST_POST - 1);
    }

    private static void loseFirstAndLast() {
        LetterAuction one = Runs.pair(0);
        one.act(0);
        Check.is("the only one", one.lose(0), 0);
        Runs.crewIs("its crew hears nothing", one, 0, 1, 0, 1);
        Runs.deskIs("its desk hears nothing", one, 0, 0, NONE, 0);
        LetterAuction two = Runs.postOf(2);
        Check.is("the first of 2", two.lose(0), 1);
        Check.is("the last stays", two.letter(0, 1), 1);
        two = Runs.postOf(2);
        Check.is("the last of 2", two.lose(1), 1);
        Check.is("the first stays", two.letter(0, 1), 0);
        Check.is("the last of 40", Runs.postOf(40).lose(39), 39);
        Check.is("the first of 41", Runs.postOf41().lose(0), 40);
        Check.is("the last of the most", Runs.greatestPost().lose(Runs.GREATEST_POST - 1),
                Runs.GREATEST_POST - 1);
    }

    // Promise 7

    private static void twins() {
        Check.sentence("P7: Letter i is there twice; the other one is the last of all: how many"
                + " there are.", PromiseBoundaryTest::twinOfFirstAndLast);
        Check.sentence("P7: IndexOutOfBoundsException: there is none",
                () -> refusesNoLetter("twin", LetterAuction::twin));
        Check.sentence("P7: IllegalStateException: 40 or more are on their way.",
                PromiseBoundaryTest::twinInAFullPost);
    }

    private static void twinOfFirstAndLast() {
        LetterAuction one = Runs.pair(0);
        one.act(1);
        Check.is("the only one", one.twin(0), 2);
        Runs.letterIs("the only one", one, 0, 0, 1, 0, 1, 13);
        Runs.letterIs("its twin", one, 1, 0, 1, 0, 1, 13);
        LetterAuction first = Runs.postOf(2);
        Check.is("the first of 2", first.twin(0), 3);
        Runs.letterIs("it is last", first, 2, 0, 0, 0, 1, 1);
        LetterAuction last = Runs.postOf(2);
        Check.is("the last of 2", last.twin(1), 3);
        Runs.letterIs("it is last", last, 2, 0, 1, 0, 1, 41);
        LetterAuction loss = Runs.contested();
        loss.deliver(0);
        Check.is("a LOSS", loss.twin(0), 3);
        Runs.letterIs("a LOSS", loss, 2, 3, 0, 0, 1, 13);
    }

    private static void twinInAFullPost() {
        Check.is("38 letters", Runs.postOf(38).twin(37), 39);
        Check.is("39 letters", Runs.postOf(39).twin(38), 40);
        for (int i : new int[] {0, 39}) {
            Runs.refusesState("40 letters", () -> Runs.postOf(40), x -> x.twin(i));
            Runs.refusesState("41 letters", Runs::postOf41, x -> x.twin(i));
        }
        Runs.refusesState("the most letters", Runs::greatestPost, x -> x.twin(44));
    }

    // Promises 8 and 9

    private static void looksAtLetters() {
        Check.sentence("P8: How many letters are on their way.", PromiseBoundaryTest::howMany);
        Check.sentence("P9: Of letter i: 0 its kind, 1 crew, 2 job, 3 bid number, 4 amount.",
                PromiseBoundaryTest::partsOfFirstAndLast);
        Check.sentence("P9: IndexOutOfBoundsException: there is none",
                PromiseBoundaryTest::letterThatIsNotThere);
        Check.sentence("P9: IllegalArgumentException: what is not 0 .. 4.",
                PromiseBoundaryTest::partThatIsNotThere);
    }

    private static void howMany() {
        Check.is("none", new LetterAuction(6, 1).letters(), 0);
        LetterAuction x = Runs.pair(0);
        x.act(0);
        Check.is("one", x.letters(), 1);
        x.lose(0);
        Check.is("none again", x.letters(), 0);
        for (int letters : new int[] {2, 39, 40}) {
            Check.is("letters", Runs.postOf(letters).letters(), letters);
        }
        Check.is("one more than 40", Runs.postOf41().letters(), 41);
        Check.is("the most", Runs.greatestPost().letters(), Runs.GREATEST_POST);
    }

    private static void partsOfFirstAndLast() {
        LetterAuction x = Runs.auction(6, 0, 5, 5, 1000);
        x.act(0);
        x.act(5);
        Runs.letterIs("the least of all", x, 0, 0, 0, 0, 1, 1);
        Runs.letterIs("the greatest of all", x, 1, 0, 5, 5, 1, 7001);
        LetterAuction most = Runs.greatestPost();
        Runs.letterIs("the last of the most", most, 44, 1, 5, 0, 1, 351);
        Runs.letterIs("the one before", most, 43, 3, 4, 0, 1, 351);
    }

    private static void letterThatIsNotThere() {
        for (int what : new int[] {-1, 0, 4, 5}) {
            refusesNoLetter("part " + what + " of", (x, i) -> x.letter(i, what));
        }
    }

    private static void partThatIsNotThere() {
        for (int out : new int[] {LEAST, -1, 5, 6, GREATEST}) {
            Runs.refusesArgument("of 2: " + out, () -> Runs.postOf(2), x -> x.letter(1, out));
            Runs.refusesArgument("of the most: " + out, Runs::greatestPost, x -> x.letter(44, out));
        }
        for (int in : new int[] {0, 1, 3, 4}) {
            Runs.takes("part " + in, () -> Runs.postOf(2), x -> x.letter(1, in));
        }
    }

    // Promises 10 to 12

    private static void looksAtCrewsAndDesks() {
        Check.sentence("P10: 1 its target (NONE when it is free)", PromiseBoundaryTest::noTarget);
        Check.sentence("P10: 3 its profit: the greatest scaled worth less the desk's price, over"
                + " all jobs.", PromiseBoundaryTest::profit);
        Check.sentence("P10: IllegalArgumentException: there is no such crew, or what.",
                () -> refusesOutside("crew", 3, 4, LetterAuction::crew));
        Check.sentence("P11: The price that a crew knows of a job.", PromiseBoundaryTest::known);
        Check.sentence("P11: IllegalArgumentException: there is no such crew or job.",
                () -> refusesOutside("known", 3, 3, LetterAuction::known));
        Check.sentence("P12: 1 its crew (NONE: none), 2 the number of that one's bid (0 without"
                + " one)", PromiseBoundaryTest::deskWithoutCrew);
        Check.sentence("P12: IllegalArgumentException: there is no such job, or what.",
                () -> refusesOutside("desk", 3, 3, LetterAuction::desk));
    }

    /** A call with two arguments. */
    private interface Look {
        void on(LetterAuction x, int a, int b);
    }

    /** The first argument is 0 .. rows - 1, the second 0 .. columns - 1. */
    private static void refusesOutside(String name, int rows, int columns, Look look) {
        for (Runs.Maker maker : stages()) {
            for (int a : new int[] {LEAST, -1, rows, rows + 1, GREATEST}) {
                Runs.refusesArgument(name + " " + a, maker, x -> look.on(x, a, 0));
            }
            for (int b : new int[] {LEAST, -1, columns, columns + 1, GREATEST}) {
                Runs.refusesArgument(name + " 0, " + b, maker, x -> look.on(x, 0, b));
            }
            for (int a : new int[] {0, rows - 1}) {
                for (int b : new int[] {0, columns - 1}) {
                    Runs.takes(name + " " + a + ", " + b, maker, x -> look.on(x, a, b));
                }
            }
        }
    }

    private static void noTarget() {
        LetterAuction x = Runs.pair(1);
        Check.is("it never bid", x.crew(0, 1), NONE);
        x.act(0);
        Check.is("it waits for job 0", x.crew(0, 1), 0);
        Runs.deliverAll(x);
        Check.is("it holds job 0", x.crew(0, 1), 0);
        x.act(1);
        Runs.deliverAll(x);
        Check.is("NO came", x.crew(1, 1), NONE);
        x.act(1);
        Check.is("it waits for the last job", x.crew(1, 1), 1);
        Runs.deliverAll(x);
        x.phase();
        Check.is("a phase began", x.crew(0, 1), NONE);
        LetterAuction y = Runs.contested();
        y.deliver(0);
        Check.is("LOSS is on its way", y.crew(0, 1), 0);
        y.deliver(0);
        Check.is("LOSS came", y.crew(0, 1), NONE);
        LetterAuction z = Runs.doneThree();
        z.worth(2, 0, 1);
        Check.is("its worth was changed", z.crew(2, 1), NONE);
        Check.is("another's worth was changed", z.crew(1, 1), 1);
    }

    private static void profit() {
        Check.is("all 0", new LetterAuction(6, 0).crew(5, 3), 0);
        for (int job : new int[] {0, 1, 4, 5}) {
            Check.is("one job", Runs.auction(6, 0, 5, job, 1000).crew(5, 3), 7000);
        }
        Check.is("two equal jobs", Runs.auction(6, 0, 5, 0, 7, 5, 5, 7).crew(5, 3), 49);
        LetterAuction x = Runs.pair(0);
        Runs.actInTurn(x, 0);
        Check.is("15 - 7 and 9", x.crew(0, 3), 9);
        Check.is("12 - 7 and 0, though it knows no price", x.crew(1, 3), 5);
        Runs.actInTurn(x, 1);
        Check.is("12 - 13 and 0", x.crew(1, 3), 0);
        Runs.actInTurn(x, 0);
        Check.is("12 - 13 and 0 - 8", x.crew(1, 3), -1);
        Check.is("15 - 13 and 9 - 8", x.crew(0, 3), 2);
        LetterAuction done = Runs.doneThree();
        Check.is("0 - 1, 0 - 1 and 0 - 2", done.crew(0, 3), -1);
    }

    private static void known() {
        LetterAuction x = Runs.auction(6, 0, 5, 5, 1000);
        Check.is("at first", x.known(5, 5), 0);
        x.act(5);
        Check.is("its own bid tells nothing", x.known(5, 5), 0);
        x.deliver(0);
        Check.is("a YES on its way tells nothing", x.known(5, 5), 0);
        x.deliver(0);
        Check.is("a YES that came", x.known(5, 5), 7001);
        Check.is("the job before", x.known(5, 4), 0);
        Check.is("the crew before", x.known(4, 5), 0);
    }

    private static void deskWithoutCrew() {
        LetterAuction x = Runs.pair(1);
        Runs.deskIs("at first", x, 1, 0, NONE, 0);
        x.act(0);
        x.deliver(0);
        Runs.deskIs("the first crew", x, 0, 70, 0, 1);
        Runs.deskIs("still none", x, 1, 0, NONE, 0);
        Runs.settle(x, 2);
        Runs.deskIs("the last crew, by its second bid", x, 1, 122, 1, 2);
        x.phase();
        Runs.deskIs("a phase began", x, 1, 122, NONE, 0);
        LetterAuction y = Runs.doneThree();
        Runs.deskIs("by a third bid", y, 2, 2, 2, 3);
        y.worth(2, 0, 1);
        Runs.deskIs("its crew's worth was changed", y, 2, 2, NONE, 0);
        Runs.deskIs("the worth of its job was changed", y, 0, 1, 0, 1);
    }

    // Promises 13 to 17

    private static void looksAtTheAuction() {
        Check.sentence("P13: Whether the auction is settled.", PromiseBoundaryTest::settled);
        Check.sentence("P14: The next phase begins: its step.", PromiseBoundaryTest::nextStep);
        Check.sentence("P14: IllegalStateException: it is not settled, or this is the last one.",
                PromiseBoundaryTest::noNextPhase);
        Check.sentence("P15: The worths of the jobs for the crews that hold them, together.",
                PromiseBoundaryTest::leastAndGreatestTotal);
        Check.sentence("P15: IllegalStateException: it is not settled.",
                () -> refusesUnsettled("total", LetterAuction::total));
        Check.sentence("P16: Whether prices and profits of all, together, are above the scaled"
                + " worths of what is held by less than N + 1.", PromiseBoundaryTest::provesOrNot);
        Check.sentence("P16: IllegalStateException: it is not settled.",
                () -> refusesUnsettled("proves", LetterAuction::proves));
        Check.sentence("P17: How many bids were sent for the first time (0), YES letters sent (1),"
                + " NO (2), LOSS (3)", PromiseBoundaryTest::countsOfLetters);
        Check.sentence("P17: the step of this phase (4).", PromiseBoundaryTest::countOfStep);
        Check.sentence("P17: IllegalArgumentException: any other number.",
                PromiseBoundaryTest::noSuchCount);
    }

    /** All hold but one crew, whose YES is letter 0. */
    private static LetterAuction oneYesIsMissing(int phases) {
        LetterAuction x = Runs.auction(2, phases, 0, 0, 1, 1, 1, 1);
        Runs.actInTurn(x, 0);
        x.act(1);
        x.deliver(0);
        return x;
    }

    private static void settled() {
        Check.no("at first", new LetterAuction(2, 0).settled());
        LetterAuction x = oneYesIsMissing(1);
        Check.no("one waits", x.settled());
        x.deliver(0);
        Check.yes("all hold", x.settled());
        x.resend(0);
        Check.yes("all hold, with a letter on its way", x.settled());
        x.deliver(0);
        x.deliver(0);
        Check.yes("all hold, and it came", x.settled());
        x.phase();
        Check.no("a phase began", x.settled());
        LetterAuction y = Runs.doneThree();
        Check.yes("done", y.settled());
        y.worth(0, 0, 0);
        Check.no("a worth was changed", y.settled());
    }

    private static void nextStep() {
        LetterAuction x = oneYesIsMissing(1);
        x.deliver(0);
        Check.is("behind the first", x.phase(), 16);
        Check.is("behind the second", next(x), 4);
        Check.is("the last", next(x), 1);
    }

    private static int next(LetterAuction x) {
        Runs.settle(x, 2);
        return x.phase();
    }

    private static void noNextPhase() {
        refusesUnsettled("phase", LetterAuction::phase);
        Runs.takes("settled in the last but one", () -> Runs.settledPair(2), LetterAuction::phase);
        Runs.refusesState("settled in the last", () -> Runs.settledPair(3), LetterAuction::phase);
        Runs.refusesState("settled in 1 alone", Runs::doneThree, LetterAuction::phase);
    }

    private static void refusesUnsettled(String name, Runs.Act call) {
        Runs.refusesState(name + " at first", () -> Runs.pair(1), call);
        Runs.refusesState(name + ", one waits", () -> oneYesIsMissing(1), call);
        Runs.takes(name + ", all hold", () -> {
            LetterAuction x = oneYesIsMissing(1);
            x.deliver(0);
            return x;
        }, call);
        Runs.refusesState(name + ", a desk has another", () -> {
            LetterAuction x = Runs.contested();
            x.deliver(0);
            x.deliver(1);
            return x;
        }, call);
        Runs.refusesState(name + ", a phase began", () -> {
            LetterAuction x = Runs.settledPair(0);
            x.phase();
            return x;
        }, call);
        Runs.refusesState(name + ", a worth was changed", () -> {
            LetterAuction x = Runs.doneThree();
            x.worth(0, 0, 0);
            return x;
        }, call);
    }

    private static void leastAndGreatestTotal() {
        Check.is("nothing is worth anything", Runs.doneThree().total(), 0);
        for (int worth : new int[] {1, 999, 1000}) {
            LetterAuction x = ownJobs(worth);
            Check.is("all of " + worth, x.total(), 6 * worth);
        }
        LetterAuction y = Runs.auction(2, 0, 0, 0, 1000, 0, 1, 999, 1, 0, 1000, 1, 1, 1000);
        Runs.settle(y, 2);
        Check.is("of what is held alone", y.total(), 2000);
    }

    /** Six crews, each of which holds the job that it alone wants. */
    private static LetterAuction ownJobs(int worth) {
        LetterAuction x = new LetterAuction(6, 0);
        for (int crew = 0; crew < 6; crew++) {
            x.worth(crew, crew, worth);
        }
        Runs.actInTurn(x, 0, 1, 2, 3, 4, 5);
        return x;
    }

    /** Settled in this phase (0 the first of four). */
    private static LetterAuction settledIn(int phase, int n, int... worths) {
        LetterAuction x = Runs.auction(n, 1, worths);
        Runs.settle(x, n);
        for (int i = 0; i < phase; i++) {
            x.phase();
            Runs.settle(x, n);
        }
        return x;
    }

    private static void proves(LetterAuction x, int above, boolean due) {
        int n = Runs.sizeOf(x);
        int sum = 0;
        for (int i = 0; i < n; i++) {
            sum += x.desk(i, 0) + x.crew(i, 3);
        }
        Check.is("above by", sum - x.total() * (n + 1), above);
        Check.same("above by " + above + " of " + n, x.proves(), due);
    }

    private static void provesOrNot() {
        proves(ownJobs(1000), 0, true);
        proves(settledIn(0, 4, 2, 0, 12, 3, 0, 13), 4, true);
        proves(settledIn(0, 4, 1, 0, 1, 2, 3, 1), 5, false);
        proves(settledIn(1, 4, 0, 0, 14, 2, 2, 15), 6, false);
        proves(settledIn(0, 3, 1, 2, 1, 2, 0, 1), 4, false);
        proves(settledIn(2, 2), 4, false);
        proves(settledIn(3, 2), 1, true);
        proves(settledIn(0, 2, 0, 0, 5, 0, 1, 3, 1, 0, 4), 64, false);
    }

    private static void countsAre(String what, LetterAuction x, int... due) {
        for (int which = 0; which < due.length; which++) {
            Check.is(what + ", count " + which, x.count(which), due[which]);
        }
    }

    private static void countsOfLetters() {
        LetterAuction x = Runs.pair(1);
        countsAre("at first", x, 0, 0, 0, 0);
        x.act(0);
        countsAre("a bid", x, 1, 0, 0, 0);
        x.resend(0);
        x.twin(0);
        countsAre("the same bid again", x, 1, 0, 0, 0);
        x.deliver(0);
        countsAre("a YES", x, 1, 1, 0, 0);
        x.twin(2);
        countsAre("its twin", x, 1, 1, 0, 0);
        x.deliver(0);
        countsAre("a YES again", x, 1, 2, 0, 0);
        x.lose(0);
        countsAre("a lost letter", x, 1, 2, 0, 0);
        x.act(1);
        x.deliver(x.letters() - 1);
        countsAre("a NO", x, 2, 2, 1, 0);
        Check.badState("it waits", () -> x.act(1));
        countsAre("a refused bid", x, 2, 2, 1, 0);
        Runs.settle(x, 2);
        countsAre("settled", x, 3, 3, 1, 0);
        x.phase();
        countsAre("a phase began", x, 3, 3, 1, 0);
        LetterAuction y = Runs.contested();
        countsAre("one holds", y, 2, 1, 0, 0);
        y.deliver(0);
        countsAre("a LOSS and a YES", y, 2, 2, 0, 1);
        y.twin(0);
        countsAre("a twin of LOSS", y, 2, 2, 0, 1);
    }

    private static void countOfStep() {
        int[] steps = {64, 16, 4, 1};
        for (int phase = 0; phase < 4; phase++) {
            Check.is("phase " + phase, Runs.settledPair(phase).count(4), steps[phase]);
        }
        Check.is("1 alone", Runs.doneThree().count(4), 1);
    }

    private static void noSuchCount() {
        for (Runs.Maker maker : stages()) {
            for (int out : new int[] {LEAST, -1, 5, 6, GREATEST}) {
                Runs.refusesArgument("count " + out, maker, x -> x.count(out));
            }
            for (int in : new int[] {0, 1, 3, 4}) {
                Runs.takes("count " + in, maker, x -> x.count(in));
            }
        }
    }
}
