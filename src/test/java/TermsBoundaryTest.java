/** Each sentence of the document's Terms that names a boundary case, with its neighbours. */
public final class TermsBoundaryTest {
    private static final int NONE = LetterAuction.NONE;
    private static final int LEAST = Integer.MIN_VALUE;
    private static final int GREATEST = Integer.MAX_VALUE;

    private TermsBoundaryTest() {
    }

    public static void main(String[] args) {
        beginnings();
        letters();
        bids();
        bidsThatCome();
        answersThatCome();
        phases();
        Check.end();
    }

    private static void beginnings() {
        Check.sentence("There are N CREWS and N JOBS, 0 .. N - 1.",
                TermsBoundaryTest::crewsAndJobs);
        Check.sentence("A crew has a WORTH for each job, 0 .. 1000",
                TermsBoundaryTest::leastAndGreatestWorth);
        Check.sentence("(0 at first)", TermsBoundaryTest::worthsAtFirst);
        Check.sentence("its SCALED worth is that times N + 1.", TermsBoundaryTest::scaledWorth);
        Check.sentence("There are PHASES, each with a STEP: 64, 16, 4, 1 one behind the other,"
                + " or 1 alone.", TermsBoundaryTest::steps);
        Check.sentence("THE DESK of a job has a PRICE, at first 0, and a CREW, or none, at first"
                + " none", TermsBoundaryTest::desksAtFirst);
        Check.sentence("A CREW knows a price of each job, at first 0, has a bid number, at first"
                + " 0, and a state: FREE (0), at first", TermsBoundaryTest::crewsAtFirst);
    }

    private static void crewsAndJobs() {
        for (int n = 2; n <= 6; n++) {
            int size = n;
            for (int in : new int[] {0, n - 1}) {
                takesCrewAndJob(() -> new LetterAuction(size, 0), in);
            }
            for (int out : new int[] {LEAST, -1, n, n + 1, GREATEST}) {
                refusesCrewAndJob(() -> new LetterAuction(size, 0), out);
            }
        }
    }

    private static void takesCrewAndJob(Runs.Maker maker, int in) {
        Runs.takes("worth of crew " + in, maker, x -> x.worth(in, 0, 1));
        Runs.takes("worth of job " + in, maker, x -> x.worth(0, in, 1));
        Runs.takes("act, resend of crew " + in, maker, x -> {
            x.act(in);
            x.resend(in);
        });
        Runs.takes("crew " + in, maker, x -> x.crew(in, 0));
        Runs.takes("known of crew " + in, maker, x -> x.known(in, 0));
        Runs.takes("known of job " + in, maker, x -> x.known(0, in));
        Runs.takes("desk of job " + in, maker, x -> x.desk(in, 0));
    }

    private static void refusesCrewAndJob(Runs.Maker maker, int out) {
        Runs.refusesArgument("worth of crew " + out, maker, x -> x.worth(out, 0, 1));
        Runs.refusesArgument("worth of job " + out, maker, x -> x.worth(0, out, 1));
        Runs.refusesArgument("act of crew " + out, maker, x -> x.act(out));
        Runs.refusesArgument("resend of crew " + out, maker, x -> x.resend(out));
        Runs.refusesArgument("crew " + out, maker, x -> x.crew(out, 0));
        Runs.refusesArgument("known of crew " + out, maker, x -> x.known(out, 0));
        Runs.refusesArgument("known of job " + out, maker, x -> x.known(0, out));
        Runs.refusesArgument("desk of job " + out, maker, x -> x.desk(out, 0));
    }

    private static void leastAndGreatestWorth() {
        Runs.Maker maker = () -> Runs.auction(2, 0, 0, 0, 500);
        for (int worth : new int[] {0, 1, 999, 1000}) {
            LetterAuction x = maker.make();
            x.worth(0, 0, worth);
            Check.is("worth " + worth, x.crew(0, 3), 3 * worth);
        }
        for (int worth : new int[] {LEAST, -1, 1001, GREATEST}) {
            Runs.refusesArgument("worth " + worth, maker, x -> x.worth(0, 0, worth));
        }
    }

    private static void worthsAtFirst() {
        for (int n = 2; n <= 6; n++) {
            LetterAuction x = new LetterAuction(n, 0);
            for (int crew = 0; crew < n; crew++) {
                Check.is("no worth is above 0", x.crew(crew, 3), 0);
                Check.is("none is above the first", x.act(crew), 0);
                Check.is("none is below the first", x.letter(crew, 4), 1);
            }
        }
    }

    private static void scaledWorth() {
        for (int n = 2; n <= 6; n++) {
            for (int worth : new int[] {0, 1, 2, 999, 1000}) {
                LetterAuction x = Runs.auction(n, 0, 0, 0, worth);
                Check.is(worth + " of " + n, x.crew(0, 3), worth * (n + 1));
                x.act(0);
                Check.is(worth + " of " + n + " in a bid", x.letter(0, 4), worth * (n + 1) + 1);
            }
        }
    }

    private static void steps() {
        LetterAuction x = Runs.pair(1);
        Check.is("the first of four", x.count(4), 64);
        for (int step : new int[] {16, 4, 1}) {
            Runs.settle(x, 2);
            Check.is("the next of four", x.phase(), step);
            Check.is("the next of four is this one", x.count(4), step);
        }
        Runs.settle(x, 2);
        Check.badState("none behind the last of four", x::phase);
        Check.is("the last of four stays", x.count(4), 1);
        LetterAuction y = Runs.pair(0);
        Check.is("1 alone", y.count(4), 1);
        Runs.settle(y, 2);
        Check.badState("none behind 1 alone", y::phase);
        Check.is("1 alone stays", y.count(4), 1);
    }

    private static void desksAtFirst() {
        for (int n = 2; n <= 6; n++) {
            LetterAuction x = new LetterAuction(n, n % 2);
            for (int job = 0; job < n; job++) {
                Runs.deskIs("of " + n + " at first", x, job, 0, NONE, 0);
            }
            x.act(n - 1);
            Runs.deskIs("before the first bid comes", x, 0, 0, NONE, 0);
            x.deliver(0);
            Runs.deskIs("of the first bid", x, 0, x.count(4), n - 1, 1);
            Runs.deskIs("next to it", x, 1, 0, NONE, 0);
        }
    }

    private static void crewsAtFirst() {
        for (int n = 2; n <= 6; n++) {
            LetterAuction x = new LetterAuction(n, n % 2);
            for (int crew = 0; crew < n; crew++) {
                Runs.crewIs("of " + n + " at first", x, crew, 0, NONE, 0);
                for (int job = 0; job < n; job++) {
                    Check.is("known at first", x.known(crew, job), 0);
                }
            }
            x.act(0);
            Runs.crewIs("of the first bid", x, 0, 1, 0, 1);
            Runs.crewIs("next to it", x, 1, 0, NONE, 0);
        }
    }

    private static void letters() {
        Check.sentence("LETTERS are on their way, in the order in which they were sent.",
                TermsBoundaryTest::orderOfLetters);
        Check.sentence("in the order in which they were sent.",
                TermsBoundaryTest::orderAfterManyLetters);
        Check.sentence("the amount of these is the desk's price when it is sent.",
                TermsBoundaryTest::amountsOfAnswers);
    }

    private static void crewsOfLettersAre(String what, LetterAuction x, int... crews) {
        Check.is(what + ": how many", x.letters(), crews.length);
        for (int i = 0; i < crews.length; i++) {
            Check.is(what + ": crew of letter " + i, x.letter(i, 1), crews[i]);
        }
    }

    private static LetterAuction bidsOfThree() {
        LetterAuction x = new LetterAuction(3, 0);
        x.act(1);
        x.act(2);
        x.act(0);
        return x;
    }

    private static void orderOfLetters() {
        crewsOfLettersAre("three bids", bidsOfThree(), 1, 2, 0);
        int[][] left = {{2, 0}, {1, 0}, {1, 2}};
        for (int i = 0; i < 3; i++) {
            LetterAuction lost = bidsOfThree();
            lost.lose(i);
            crewsOfLettersAre("lost " + i, lost, left[i]);
            LetterAuction come = bidsOfThree();
            int crew = come.letter(i, 1);
            come.deliver(i);
            crewsOfLettersAre("came " + i, come, left[i][0], left[i][1], crew);
            Check.is("the answer is last", come.letter(2, 0), 1);
            LetterAuction twice = bidsOfThree();
            twice.twin(i);
            crewsOfLettersAre("twice " + i, twice, 1, 2, 0, crew);
        }
    }

    private static void orderAfterManyLetters() {
        LetterAuction x = new LetterAuction(3, 0);
        x.act(0);
        x.act(1);
        x.act(2);
        for (int i = 0; i < 160; i++) {
            Check.is("the first of three, round " + i, x.letter(0, 1), i % 3);
            x.lose(0);
            x.resend(i % 3);
        }
        crewsOfLettersAre("at the end", x, 1, 2, 0);
    }

    private static void amountsOfAnswers() {
        LetterAuction x = Runs.auction(3, 0, 0, 0, 1, 1, 0, 2, 2, 0, 3);
        x.act(0);
        x.act(1);
        x.act(2);
        x.twin(0);
        x.deliver(0);
        x.deliver(0);
        x.deliver(1);
        x.deliver(0);
        Runs.letterIs("YES at the first price", x, 0, 1, 0, 0, 1, 5);
        Runs.letterIs("LOSS at the second", x, 1, 3, 0, 0, 1, 9);
        Runs.letterIs("YES at the second", x, 2, 1, 1, 0, 1, 9);
        Runs.letterIs("NO at the second", x, 3, 2, 0, 0, 1, 9);
        Runs.letterIs("LOSS at the third", x, 4, 3, 1, 0, 1, 13);
        Runs.letterIs("YES at the third", x, 5, 1, 2, 0, 1, 13);
        x.deliver(0);
        Check.is("it tells the first price", x.known(0, 0), 5);
        x.deliver(0);
        Check.is("it tells the second price", x.known(0, 0), 9);
    }

    private static void bids() {
        Check.sentence("it takes the job of the greatest value (of several the least)",
                TermsBoundaryTest::jobsOfEqualWorth);
        Check.sentence("the value of a job is its scaled worth less the price that it knows",
                TermsBoundaryTest::jobsOfEqualValue);
        Check.sentence("v is the greatest value of the others.", TermsBoundaryTest::secondBest);
        Check.sentence("Its bid number grows by 1", TermsBoundaryTest::bidNumbers);
        Check.sentence("the job is its target, it waits, and a bid is sent",
                TermsBoundaryTest::firstAndLastTarget);
        Check.sentence("its amount is the price that it knows of the job, and by how much its"
                + " value is above v, and the step.", TermsBoundaryTest::amountsOfBids);
    }

    private static void jobsOfEqualWorth() {
        for (int a = 0; a < 6; a++) {
            for (int b = a + 1; b < 6; b++) {
                String jobs = " of " + a + " and " + b;
                Check.is("equal ones" + jobs, targetOf(a, 500, b, 500), a);
                Check.is("the later one by 1" + jobs, targetOf(a, 499, b, 500), b);
                Check.is("the earlier one by 1" + jobs, targetOf(a, 500, b, 499), a);
            }
        }
        Check.is("all equal at 0", new LetterAuction(6, 0).act(5), 0);
        Check.is("all but the first equal at 1", Runs.auction(3, 0, 0, 1, 1, 0, 2, 1).act(0), 1);
    }

    private static int targetOf(int a, int worthOfA, int b, int worthOfB) {
        return Runs.auction(6, 0, 3, a, worthOfA, 3, b, worthOfB).act(3);
    }

    /** Crew 0 knows prices 64 and 128 of jobs 0 and 1 and may bid again; job 2 costs more. */
    private static LetterAuction knowsTwoPrices(int worthOfJob1) {
        LetterAuction x = Runs.auction(3, 1, 2, 1, 16, 0, 1, worthOfJob1);
        Runs.actInTurn(x, 2, 1, 0, 0, 0);
        x.phase();
        Check.is("price of job 0", x.known(0, 0), 64);
        Check.is("price of job 1", x.known(0, 1), 128);
        return x;
    }

    private static void jobsOfEqualValue() {
        LetterAuction equal = knowsTwoPrices(16);
        Check.is("0 - 64 and 64 - 128", equal.act(0), 0);
        Runs.letterIs("nothing above v", equal, 0, 0, 0, 0, 4, 80);
        LetterAuction less = knowsTwoPrices(15);
        Check.is("0 - 64 and 60 - 128", less.act(0), 0);
        Runs.letterIs("4 above v", less, 0, 0, 0, 0, 4, 84);
        LetterAuction more = knowsTwoPrices(17);
        Check.is("0 - 64 and 68 - 128", more.act(0), 1);
        Runs.letterIs("4 above v at 128", more, 0, 0, 0, 1, 4, 148);
    }

    private static void secondBest() {
        for (int best = 0; best < 6; best++) {
            for (int second = 0; second < 6; second++) {
                if (second != best) {
                    Check.is("7 scaled by 7", amountFor(best, second, 9, 2), 7 * 7 + 1);
                    Check.is("1 scaled by 7", amountFor(best, second, 9, 8), 7 + 1);
                    Check.is("0 scaled by 7", amountFor(best, second, 9, 9), 1);
                }
            }
        }
        LetterAuction two = Runs.auction(2, 0, 0, 0, 4, 0, 1, 3);
        two.act(0);
        Check.is("one other alone", two.letter(0, 4), 3 + 1);
        LetterAuction x = new LetterAuction(2, 0);
        Runs.actInTurn(x, 0, 1);
        Check.is("value 0", x.act(1), 1);
        Check.is("v is below 0", x.letter(0, 4), 1 + 1);
    }

    private static int amountFor(int best, int second, int worthOfBest, int worthOfSecond) {
        LetterAuction x = new LetterAuction(6, 0);
        for (int job = 0; job < 6; job++) {
            x.worth(2, job, 1);
        }
        x.worth(2, best, worthOfBest);
        x.worth(2, second, worthOfSecond);
        x.act(2);
        return x.letter(0, 4);
    }

    private static void bidNumbers() {
        LetterAuction x = new LetterAuction(2, 1);
        Check.is("at first", x.crew(1, 2), 0);
        x.act(0);
        Check.is("another crew's bid", x.crew(1, 2), 0);
        x.act(1);
        Check.is("the first bid", x.crew(1, 2), 1);
        Check.is("in the letter", x.letter(1, 3), 1);
        x.resend(1);
        x.twin(1);
        Check.badState("it waits", () -> x.act(1));
        Check.is("no new bid", x.crew(1, 2), 1);
        Runs.deliverAll(x);
        x.act(1);
        Check.is("the second bid", x.crew(1, 2), 2);
        Check.is("in the letter", x.letter(0, 3), 2);
        Runs.deliverAll(x);
        x.phase();
        Check.is("a new phase", x.crew(1, 2), 2);
        x.act(1);
        Check.is("the third bid", x.crew(1, 2), 3);
    }

    private static void firstAndLastTarget() {
        for (int job : new int[] {0, 1, 4, 5}) {
            LetterAuction x = Runs.auction(6, 0, 5, job, 1);
            Check.is("target", x.act(5), job);
            Runs.crewIs("waits", x, 5, 1, job, 1);
            Check.is("one bid alone", x.letters(), 1);
            Runs.letterIs("for it", x, 0, 0, 5, job, 1, 7 + 1);
        }
    }

    private static void amountsOfBids() {
        LetterAuction least = new LetterAuction(2, 0);
        least.act(0);
        Check.is("0, 0 and 1", least.letter(0, 4), 1);
        LetterAuction step = new LetterAuction(2, 1);
        step.act(0);
        Check.is("0, 0 and 64", step.letter(0, 4), 64);
        LetterAuction most = Runs.auction(6, 1, 0, 5, 1000);
        most.act(0);
        Check.is("0, 7000 and 64", most.letter(0, 4), 7064);
        LetterAuction priced = Runs.doneThree();
        priced.worth(2, 2, 0);
        priced.act(2);
        Check.is("1, 0 and 1", priced.letter(0, 4), 2);
        LetterAuction both = Runs.doneThree();
        both.worth(2, 2, 1);
        both.act(2);
        Check.is("2, 3 and 1", both.letter(0, 4), 6);
    }

    private static void bidsThatCome() {
        Check.sentence("if the desk's crew is that crew, by that bid number, YES is sent.",
                TermsBoundaryTest::bidOfTheDesksCrew);
        Check.sentence("Otherwise, if the amount is not less than the price and the step",
                TermsBoundaryTest::amountAtPriceAndStep);
        Check.sentence("a crew that the desk has gets LOSS (with the number of its bid)",
                TermsBoundaryTest::deskWithAndWithoutCrew);
        Check.sentence("and the price is the amount, then (LOSS tells this one)",
                TermsBoundaryTest::priceIsTheAmount);
        Check.sentence("Otherwise NO is sent.", TermsBoundaryTest::refusedBid);
    }

    /**
     * Crew 2 waits for its bid 3, by which desk 0 has it at price 38; letter 0 is a twin of its
     * bid 2 of 2 for job 0, letter 1 a LOSS for crew 1, letter 2 the YES to bid 3.
     */
    private static LetterAuction oldTwin() {
        LetterAuction x = Runs.auction(3, 0, 0, 1, 10, 1, 0, 5, 1, 1, 6, 2, 0, 10, 2, 1, 11);
        Runs.actInTurn(x, 1);
        x.act(2);
        x.twin(0);
        x.deliver(0);
        x.deliver(1);
        x.act(2);
        x.twin(1);
        x.deliver(1);
        x.deliver(2);
        for (int crew = 0; crew <= 1; crew++) {
            x.act(crew);
            x.deliver(2);
            x.deliver(2);
            x.deliver(2);
        }
        Runs.crewIs("crew 2 lost by bid 2", x, 2, 0, NONE, 2);
        x.deliver(0);
        x.deliver(1);
        Check.is("it bids again", x.act(2), 0);
        Runs.letterIs("bid 2", x, 0, 0, 2, 0, 2, 2);
        Runs.letterIs("bid 3", x, 1, 0, 2, 0, 3, 38);
        x.deliver(1);
        Runs.deskIs("has crew 2 by bid 3", x, 0, 38, 2, 3);
        return x;
    }

    private static void bidOfTheDesksCrew() {
        LetterAuction x = oldTwin();
        x.deliver(0);
        Runs.letterIs("that crew, by the bid before", x, 2, 2, 2, 0, 2, 38);
        Runs.deskIs("that crew, by the bid before", x, 0, 38, 2, 3);
        x.resend(2);
        x.deliver(3);
        Runs.letterIs("that crew, by that bid", x, 3, 1, 2, 0, 3, 38);
        Runs.deskIs("that crew, by that bid", x, 0, 38, 2, 3);
        LetterAuction y = new LetterAuction(3, 0);
        Runs.actInTurn(y, 1);
        for (int crew : new int[] {0, 2}) {
            y.act(crew);
            y.deliver(0);
            Runs.letterIs("a crew next to it, by that number", y, 0, 2, crew, 0, 1, 1);
            y.deliver(0);
        }
        Runs.deskIs("a crew next to it, by that number", y, 0, 1, 1, 1);
    }

    /** The last of these crews bids this amount when the price is that, and gets the job or not. */
    private static void edge(LetterAuction x, int[] crews, int amount, int price, boolean gets) {
        int last = crews[crews.length - 1];
        Runs.actInTurn(x, java.util.Arrays.copyOf(crews, crews.length - 1));
        int job = x.act(last);
        String what = amount + " at price " + price + ", step " + x.count(4);
        Check.is(what + ": amount", x.letter(0, 4), amount);
        Check.is(what + ": price", x.desk(job, 0), price);
        int holder = x.desk(job, 1);
        int answers = gets && holder != NONE ? 2 : 1;
        x.deliver(0);
        Check.is(what + ": answers", x.letters(), answers);
        Check.is(what + ": its answer", x.letter(answers - 1, 0), gets ? 1 : 2);
        Check.is(what + ": the price then", x.desk(job, 0), gets ? amount : price);
        Check.is(what + ": the desk's crew then", x.desk(job, 1), gets ? last : holder);
    }

    /** Settled in each phase before this one (0 the first of four), which has begun. */
    private static LetterAuction inPhase(int phase, int n, int... worths) {
        LetterAuction x = Runs.auction(n, 1, worths);
        for (int i = 0; i < phase; i++) {
            Runs.settle(x, n);
            x.phase();
        }
        return x;
    }

    private static void amountAtPriceAndStep() {
        edge(inPhase(0, 6, 5, 0, 9), new int[] {3, 5}, 127, 64, false);
        edge(inPhase(0, 3, 1, 0, 16), new int[] {0, 1}, 128, 64, true);
        edge(inPhase(0, 4, 1, 0, 13), new int[] {2, 1}, 129, 64, true);
        edge(inPhase(1, 2, 1, 1, 5), new int[] {1, 0, 0}, 95, 80, false);
        edge(inPhase(1, 3, 2, 1, 4), new int[] {2, 2, 2, 1}, 96, 80, true);
        edge(inPhase(1, 2, 1, 1, 5), new int[] {1, 0, 0, 0}, 96, 79, true);
        edge(inPhase(2, 2, 0, 1, 1), new int[] {0, 0, 1}, 100, 97, false);
        edge(inPhase(2, 3, 1, 2, 7), new int[] {0, 1}, 100, 96, true);
        edge(inPhase(2, 4, 0, 0, 6, 2, 3, 5), new int[] {1, 2}, 98, 93, true);
        edge(inPhase(3, 2), new int[] {0, 0, 1}, 169, 169, false);
        edge(inPhase(3, 3, 2, 2, 11), new int[] {1, 2, 2, 0, 0}, 106, 105, true);
        edge(inPhase(3, 3, 1, 2, 11), new int[] {1, 2, 2, 0, 0}, 107, 105, true);
        edge(new LetterAuction(3, 0), new int[] {0, 1}, 1, 1, false);
        edge(new LetterAuction(3, 0), new int[] {0}, 1, 0, true);
        edge(new LetterAuction(3, 0), new int[] {0, 1, 1, 2, 2, 2}, 2, 0, true);
    }

    private static void deskWithAndWithoutCrew() {
        LetterAuction x = oldTwin();
        Runs.letterIs("the number of the bid that lost", x, 1, 3, 1, 0, 2, 38);
        LetterAuction y = Runs.pair(0);
        y.act(0);
        y.act(1);
        y.deliver(0);
        Check.is("no crew, at price 0: letters", y.letters(), 2);
        Check.is("no crew, at price 0: LOSS", y.count(3), 0);
        y.deliver(0);
        Check.is("a crew: letters", y.letters(), 3);
        Check.is("a crew: LOSS", y.count(3), 1);
        Runs.letterIs("LOSS is sent first", y, 1, 3, 0, 0, 1, 13);
        Runs.letterIs("YES is sent then", y, 2, 1, 1, 0, 1, 13);
        LetterAuction phased = inPhase(1, 2, 1, 1, 1);
        phased.act(1);
        phased.deliver(0);
        Runs.deskIs("no crew since the phase began", phased, 0, 80, 1, 2);
        Check.is("no crew since the phase began: letters", phased.letters(), 1);
        LetterAuction freed = Runs.doneThree();
        int losses = freed.count(3);
        freed.worth(0, 0, 9);
        freed.act(0);
        freed.deliver(0);
        Check.is("no crew since a worth was changed: its job", freed.desk(0, 1), 0);
        Check.is("no crew since a worth was changed: letters", freed.letters(), 1);
        Check.is("no crew since a worth was changed: LOSS", freed.count(3), losses);
    }

    private static void priceIsTheAmount() {
        LetterAuction x = Runs.contested();
        x.deliver(0);
        Runs.deskIs("the amount, not the old price and the step", x, 0, 13, 1, 1);
        Runs.letterIs("LOSS tells 13, not 7", x, 0, 3, 0, 0, 1, 13);
        Runs.letterIs("YES tells 13", x, 1, 1, 1, 0, 1, 13);
        LetterAuction y = Runs.doneThree();
        y.worth(2, 2, 0);
        y.act(2);
        y.deliver(0);
        Runs.deskIs("above by 1", y, 0, 2, 2, 4);
        Runs.letterIs("LOSS tells 2, not 1", y, 0, 3, 0, 0, 1, 2);
    }

    private static void refusedBid() {
        LetterAuction x = new LetterAuction(3, 0);
        Runs.actInTurn(x, 0);
        x.act(1);
        x.deliver(0);
        Check.is("no other letter", x.letters(), 1);
        Runs.letterIs("NO with its own number and the price", x, 0, 2, 1, 0, 1, 1);
        Runs.deskIs("the desk stays", x, 0, 1, 0, 1);
        Runs.crewIs("it waits until NO comes", x, 1, 1, 0, 1);
        Check.is("it knows nothing until NO comes", x.known(1, 0), 0);
        Check.is("a NO was sent", x.count(2), 1);
    }

    private static void answersThatCome() {
        Check.sentence("its amount is above the price that the crew knows of the job, it knows the"
                + " amount.", TermsBoundaryTest::amountNextToTheKnownPrice);
        Check.sentence("If its bid number is the crew's, then", TermsBoundaryTest::numberOfAnswer);
        Check.sentence("YES: if it waits, it holds its target", TermsBoundaryTest::yesComes);
        Check.sentence("NO, or LOSS: if it waits or holds, it is free.",
                TermsBoundaryTest::noOrLossComes);
        Check.sentence("TO SEND AGAIN, for a crew that waits or holds: its latest bid is sent, as"
                + " it was.", TermsBoundaryTest::sentAgainAsItWas);
    }

    private static void amountNextToTheKnownPrice() {
        LetterAuction x = Runs.doneThree();
        x.worth(2, 2, 0);
        x.resend(0);
        x.deliver(0);
        x.twin(0);
        x.act(2);
        x.deliver(2);
        Runs.letterIs("YES with 1", x, 0, 1, 0, 0, 1, 1);
        x.deliver(0);
        Check.is("1 is known and 1 comes", x.known(0, 0), 1);
        Runs.letterIs("LOSS with 2", x, 1, 3, 0, 0, 1, 2);
        x.deliver(1);
        Check.is("1 is known and 2 comes", x.known(0, 0), 2);
        Runs.letterIs("YES with 1 again", x, 0, 1, 0, 0, 1, 1);
        x.deliver(0);
        Check.is("2 is known and 1 comes", x.known(0, 0), 2);
        Check.is("of another job", x.known(0, 1), 0);
        Check.is("of another crew", x.known(1, 0), 1);
    }

    private static void numberOfAnswer() {
        LetterAuction x = oldTwin();
        x.deliver(0);
        x.deliver(2);
        Runs.crewIs("NO to the bid before leaves it waiting", x, 2, 1, 0, 3);
        x.deliver(1);
        Runs.crewIs("YES to this bid is heard", x, 2, 2, 0, 3);
        x.deliver(0);
        Runs.crewIs("LOSS of this bid is heard", x, 1, 0, NONE, 2);
        LetterAuction y = Runs.contested();
        y.deliver(0);
        y.twin(0);
        y.deliver(0);
        y.act(0);
        Runs.letterIs("a twin of LOSS of bid 1", y, 1, 3, 0, 0, 1, 13);
        y.twin(1);
        y.deliver(1);
        Runs.crewIs("LOSS of the bid before leaves it waiting", y, 0, 1, 1, 2);
        y.deliver(1);
        y.deliver(2);
        Runs.crewIs("YES to bid 2", y, 0, 2, 1, 2);
        Runs.letterIs("a twin of LOSS of bid 1", y, 1, 3, 0, 0, 1, 13);
        y.deliver(1);
        Runs.crewIs("LOSS of the bid before leaves it holding", y, 0, 2, 1, 2);
        LetterAuction z = Runs.pair(0);
        z.act(0);
        z.deliver(0);
        z.act(1);
        z.deliver(1);
        z.deliver(1);
        z.act(0);
        Runs.letterIs("YES to bid 1", z, 0, 1, 0, 0, 1, 7);
        z.deliver(0);
        Runs.crewIs("YES to the bid before leaves it waiting", z, 0, 1, 1, 2);
    }

    private static void yesComes() {
        LetterAuction x = Runs.pair(0);
        x.act(0);
        x.deliver(0);
        x.twin(0);
        x.twin(0);
        x.deliver(0);
        Runs.crewIs("it waits", x, 0, 2, 0, 1);
        x.deliver(0);
        Runs.crewIs("it holds", x, 0, 2, 0, 1);
        x.act(1);
        x.deliver(1);
        x.deliver(1);
        Runs.crewIs("LOSS came before the last YES", x, 0, 0, NONE, 1);
        Check.is("the last YES", x.deliver(0), 1);
        Runs.crewIs("it is free", x, 0, 0, NONE, 1);
        x.act(0);
        Runs.crewIs("and may bid", x, 0, 1, 1, 2);
    }

    private static void noOrLossComes() {
        LetterAuction x = Runs.contested();
        x.deliver(0);
        x.twin(0);
        x.deliver(0);
        Runs.crewIs("LOSS, and it holds", x, 0, 0, NONE, 1);
        x.deliver(1);
        Runs.crewIs("LOSS, and it is free", x, 0, 0, NONE, 1);
        LetterAuction y = Runs.pair(0);
        y.act(0);
        y.deliver(0);
        y.act(1);
        y.deliver(1);
        Check.is("LOSS before YES", y.deliver(1), 3);
        Runs.crewIs("LOSS, and it waits", y, 0, 0, NONE, 1);
        LetterAuction z = new LetterAuction(2, 0);
        Runs.actInTurn(z, 0);
        z.act(1);
        z.deliver(0);
        z.twin(0);
        z.deliver(0);
        Runs.crewIs("NO, and it waits", z, 1, 0, NONE, 1);
        z.deliver(0);
        Runs.crewIs("NO, and it is free", z, 1, 0, NONE, 1);
        LetterAuction held = Runs.contested();
        held.deliver(0);
        held.lose(0);
        held.resend(0);
        held.deliver(1);
        Runs.crewIs("it holds what its desk has no more", held, 0, 2, 0, 1);
        Check.is("NO", held.deliver(1), 2);
        Runs.crewIs("NO, and it holds", held, 0, 0, NONE, 1);
    }

    private static void sentAgainAsItWas() {
        LetterAuction x = oldTwin();
        x.deliver(0);
        x.deliver(2);
        Check.is("it waits and knows a new price", x.known(2, 0), 38);
        x.resend(2);
        Runs.letterIs("it waits", x, 2, 0, 2, 0, 3, 38);
        x.deliver(1);
        x.resend(2);
        Runs.letterIs("it holds", x, 2, 0, 2, 0, 3, 38);
        Runs.crewIs("it holds on", x, 2, 2, 0, 3);
        Runs.refusesState("it never bid", () -> Runs.pair(0), y -> y.resend(0));
        Runs.refusesState("it is free again", TermsBoundaryTest::lost, y -> y.resend(0));
    }

    /** Crew 0 is free after a LOSS. */
    private static LetterAuction lost() {
        LetterAuction x = Runs.contested();
        x.deliver(0);
        x.deliver(0);
        return x;
    }

    private static void phases() {
        Check.sentence("The auction is SETTLED when each crew holds a job whose desk has it by that"
                + " bid.", TermsBoundaryTest::allButOneHold);
        Check.sentence("Then the next phase may begin, if there is one",
                TermsBoundaryTest::nextPhaseMayBegin);
        Check.sentence("letters go, all desks have no crew, all crews are free; prices, and what"
                + " is known, stay.", TermsBoundaryTest::whatANewPhaseLeaves);
        Check.sentence("When all phases are over it is DONE; worths may be changed then",
                TermsBoundaryTest::doneInTheLastPhaseAlone);
        Check.sentence("and bidding goes on in the last phase", TermsBoundaryTest::biddingGoesOn);
        Check.sentence("the crew whose worth it is becomes free, the desk of its job has no crew.",
                TermsBoundaryTest::oneCrewAloneBecomesFree);
    }

    /** Each crew gets a job of its own, the last one when all others hold theirs. */
    private static void allButOneHold() {
        for (int n = 2; n <= 6; n++) {
            LetterAuction x = new LetterAuction(n, 0);
            for (int crew = 0; crew < n; crew++) {
                x.worth(crew, n - 1 - crew, 1000);
            }
            for (int crew = 0; crew < n - 1; crew++) {
                Runs.actInTurn(x, crew);
                Check.no("not all hold", x.settled());
            }
            x.act(n - 1);
            Check.no("the last one waits", x.settled());
            x.deliver(0);
            Check.no("the last one waits, but its desk has it", x.settled());
            x.deliver(0);
            Check.yes("all hold", x.settled());
        }
        LetterAuction y = Runs.contested();
        y.deliver(0);
        y.deliver(1);
        Runs.crewIs("it holds a job", y, 0, 2, 0, 1);
        Runs.crewIs("that another holds", y, 1, 2, 0, 1);
        Check.no("a desk has but one of them", y.settled());
        y.deliver(0);
        Check.no("one is free", y.settled());
        Runs.actInTurn(y, 0);
        Check.yes("both hold", y.settled());
    }

    private static void nextPhaseMayBegin() {
        int[] next = {16, 4, 1};
        for (int phase = 0; phase < 3; phase++) {
            int before = phase;
            Check.is("settled", Runs.settledPair(phase).phase(), next[phase]);
            Runs.refusesState("begun, not settled", () -> begunPair(before), LetterAuction::phase);
            Runs.refusesState("one waits", () -> waitingPair(before), LetterAuction::phase);
        }
        Runs.refusesState("there is none", () -> Runs.settledPair(3), LetterAuction::phase);
    }

    private static LetterAuction begunPair(int phase) {
        LetterAuction x = Runs.settledPair(phase);
        x.phase();
        return x;
    }

    /** One YES is missing, then the next phase could begin. */
    private static LetterAuction waitingPair(int phase) {
        LetterAuction x = inPhase(phase, 2, 0, 0, 5, 0, 1, 3, 1, 0, 4);
        for (int i = 0; i < 100 && !oneYesIsMissing(x); i++) {
            if (x.letters() > 0) {
                x.deliver(0);
            } else {
                x.act(x.crew(0, 0) == 0 ? 0 : 1);
            }
        }
        Check.yes("one YES is missing", oneYesIsMissing(x));
        return x;
    }

    private static boolean oneYesIsMissing(LetterAuction x) {
        return x.letters() == 1 && x.letter(0, 0) == 1 && x.crew(0, 0) + x.crew(1, 0) == 3;
    }

    private static void whatANewPhaseLeaves() {
        for (int letters : new int[] {0, 1, 39, 40}) {
            LetterAuction x = Runs.settledPair(0);
            for (int i = 0; i < letters; i++) {
                x.resend(i % 2);
            }
            Check.is("letters before", x.letters(), letters);
            x.phase();
            Check.is("letters go", x.letters(), 0);
            Check.badIndex("there is none", () -> x.letter(0, 0));
            Runs.deskIs("the first desk", x, 0, 70, NONE, 0);
            Runs.deskIs("the last desk", x, 1, 122, NONE, 0);
            Runs.crewIs("the first crew", x, 0, 0, NONE, 1);
            Runs.crewIs("the last crew", x, 1, 0, NONE, 2);
            Check.is("known of what it held", x.known(0, 0), 70);
            Check.is("known of what it did not bid for", x.known(0, 1), 0);
            Check.is("known of what it was refused", x.known(1, 0), 70);
            Check.is("known of what it held", x.known(1, 1), 122);
        }
    }

    private static void doneInTheLastPhaseAlone() {
        for (int phase = 0; phase < 3; phase++) {
            int settled = phase;
            Runs.refusesState("settled, but phases are left", () -> Runs.settledPair(settled),
                    x -> x.worth(0, 0, 1000));
            Runs.refusesState("begun", () -> begunPair(settled), x -> x.worth(0, 0, 1000));
        }
        Runs.refusesState("one waits in the last", () -> waitingPair(3), x -> x.worth(0, 0, 1000));
        Runs.takes("settled in the last", () -> Runs.settledPair(3), x -> x.worth(0, 0, 1000));
        Runs.takes("settled in 1 alone", Runs::doneThree, x -> x.worth(0, 0, 1000));
        Runs.refusesState("changed, and not settled again", () -> {
            LetterAuction x = Runs.doneThree();
            x.worth(0, 0, 1);
            return x;
        }, x -> x.worth(0, 0, 1000));
    }

    private static void biddingGoesOn() {
        LetterAuction x = Runs.settledPair(3);
        x.worth(0, 0, 1000);
        Check.is("the step", x.count(4), 1);
        Check.badState("no phase behind it", x::phase);
        Runs.settle(x, 2);
        Check.badState("no phase behind it, settled again", x::phase);
        Check.is("the new best", x.total(), 1000);
        Check.yes("proved", x.proves());
    }

    private static void oneCrewAloneBecomesFree() {
        for (int crew = 0; crew < 3; crew++) {
            for (int job = 0; job < 3; job++) {
                LetterAuction x = Runs.doneThree();
                x.worth(crew, job, 1000);
                String what = "worth of crew " + crew + " for job " + job;
                for (int i = 0; i < 3; i++) {
                    boolean freed = i == crew;
                    Runs.crewIs(what, x, i, freed ? 0 : 2, freed ? NONE : i, i + 1);
                    Runs.deskIs(what, x, i, i == 2 ? 2 : 1, freed ? NONE : i, freed ? 0 : i + 1);
                }
            }
        }
    }
}
