/** Each promise of the document by itself: ordinary inputs, edges and wrong inputs. */
public final class PromisesTest {
    private static final int NONE = LetterAuction.NONE;

    private PromisesTest() {
    }

    public static void main(String[] args) {
        newObject();
        newObjectSizes();
        newObjectPhases();
        worthBeforeBids();
        worthWhenDone();
        worthIsRefused();
        act();
        actChoosesTheLeastOfEqualJobs();
        actUsesKnownPrices();
        actIsRefused();
        resend();
        resendIsRefused();
        deliverBid();
        deliverEdgeOfPriceAndStep();
        deliverBidAgain();
        deliverAnswer();
        deliverStaleAnswers();
        deliverAmountsOfOldLetters();
        deliverNoToHolder();
        deliverIsRefused();
        lose();
        twin();
        twinIsRefused();
        fullPost();
        letters();
        letter();
        crew();
        known();
        desk();
        settled();
        phase();
        phaseIsRefused();
        total();
        proves();
        count();
        Check.end();
    }

    private static void newObject() {
        Check.is("P1 NONE", NONE, -1);
        LetterAuction x = new LetterAuction(4, 0);
        for (int i = 0; i < 4; i++) {
            Runs.crewIs("P1 new", x, i, 0, NONE, 0, 0);
            Runs.deskIs("P1 new", x, i, 0, NONE, 0);
            for (int job = 0; job < 4; job++) {
                Check.is("P1 known at first", x.known(i, job), 0);
            }
        }
        for (int kind = 0; kind < 4; kind++) {
            Check.is("P1 count at first", x.count(kind), 0);
        }
        Check.is("P1 letters at first", x.letters(), 0);
        Check.no("P1 settled at first", x.settled());
    }

    private static void newObjectSizes() {
        int[][] sizes = {{2, 2}, {3, 3}, {5, 5}, {6, 6}, {1, 2}, {0, 2}, {-7, 2},
            {Integer.MIN_VALUE, 2}, {7, 6}, {9, 6}, {Integer.MAX_VALUE, 6}};
        for (int[] size : sizes) {
            LetterAuction x = new LetterAuction(size[0], 0);
            int n = size[1];
            Check.is("P1 last crew of " + size[0], x.crew(n - 1, 0), 0);
            Check.is("P1 last job of " + size[0], x.desk(n - 1, 0), 0);
            Check.badArgument("P1 no crew more for " + size[0], () -> x.crew(n, 0));
            Check.badArgument("P1 no job more for " + size[0], () -> x.desk(n, 0));
        }
    }

    private static void newObjectPhases() {
        Check.is("P1 a step of 1 alone", new LetterAuction(2, 0).count(4), 1);
        for (int phases : new int[] {1, 4, -1, Integer.MIN_VALUE, Integer.MAX_VALUE}) {
            Check.is("P1 four steps for " + phases, new LetterAuction(2, phases).count(4), 64);
        }
    }

    private static void worthBeforeBids() {
        LetterAuction x = new LetterAuction(3, 0);
        x.worth(1, 2, 1000);
        Check.is("P2 scaled by N + 1", x.crew(1, 3), 4000);
        Check.is("P2 of another crew", x.crew(0, 3), 0);
        x.worth(1, 2, 7);
        Check.is("P2 changed", x.crew(1, 3), 28);
        x.worth(1, 2, 0);
        Check.is("P2 zero", x.crew(1, 3), 0);
        Runs.crewIs("P2 stays free", x, 1, 0, NONE, 0);
        Check.is("P2 no bid", x.count(0), 0);
    }

    private static void worthWhenDone() {
        LetterAuction x = Runs.pair(0);
        Runs.settle(x, 2);
        Runs.deskIs("P2 done", x, 0, 13, 1, 1);
        x.resend(0);
        x.resend(1);
        Check.is("P2 letters when done", x.letters(), 2);
        x.worth(1, 1, 9);
        Check.is("P2 letters go", x.letters(), 0);
        Runs.crewIs("P2 becomes free", x, 1, 0, NONE, 1);
        Runs.deskIs("P2 desk has none, price stays", x, 0, 13, NONE, 0);
        Runs.crewIs("P2 the other crew holds", x, 0, 2, 1, 2);
        Runs.deskIs("P2 the other desk", x, 1, 8, 0, 2);
        Check.is("P2 what is known stays", x.known(1, 0), 13);
        Check.no("P2 no more settled", x.settled());
        Check.badState("P2 no more done", () -> x.worth(0, 0, 1));
        Check.is("P2 the last phase goes on", x.count(4), 1);
        Runs.settle(x, 2);
        Check.is("P2 the new best", x.total(), 14);
        Check.yes("P2 proved anew", x.proves());
        x.worth(0, 0, 5);
        Check.is("P2 the same worth frees too", x.crew(0, 0), 0);
    }

    private static void worthIsRefused() {
        LetterAuction x = new LetterAuction(3, 1);
        int[][] bad = {{-1, 0, 1}, {3, 0, 1}, {0, -1, 1}, {0, 3, 1}, {0, 0, -1}, {0, 0, 1001},
            {Integer.MAX_VALUE, 0, 0}, {0, Integer.MIN_VALUE, 0}, {0, 0, Integer.MIN_VALUE}};
        for (int[] b : bad) {
            Check.badArgument("P2 wrong", () -> x.worth(b[0], b[1], b[2]));
        }
        x.act(0);
        Check.badState("P2 after a bid", () -> x.worth(1, 0, 1));
        for (int[] b : bad) {
            Check.badArgument("P2 wrong, before the state", () -> x.worth(b[0], b[1], b[2]));
        }
        Check.is("P2 nothing changed", x.crew(1, 3), 0);
        x.lose(0);
        Check.badState("P2 after a lost bid", () -> x.worth(1, 0, 1));
        LetterAuction y = Runs.pair(1);
        for (int step : new int[] {16, 4, 1}) {
            Runs.settle(y, 2);
            Check.badState("P2 settled, but not in the last phase", () -> y.worth(0, 0, 1));
            Check.is("P2 next step", y.phase(), step);
            Check.badState("P2 a new phase, all free", () -> y.worth(0, 0, 1));
        }
        Runs.settle(y, 2);
        y.worth(0, 0, 1);
        Check.is("P2 taken when done", y.crew(0, 0), 0);
    }

    private static void act() {
        LetterAuction x = Runs.pair(0);
        Check.is("P3 target", x.act(0), 0);
        Runs.crewIs("P3 waits", x, 0, 1, 0, 1);
        Runs.letterIs("P3 price 0, 15 above 9, step 1", x, 0, 0, 0, 0, 1, 7);
        Check.is("P3 target", x.act(1), 0);
        Runs.letterIs("P3 12 above 0", x, 1, 0, 1, 0, 1, 13);
        Check.is("P3 two letters", x.letters(), 2);
        Runs.deskIs("P3 the desk knows nothing yet", x, 0, 0, NONE, 0);
        LetterAuction y = Runs.pair(1);
        y.act(1);
        Runs.letterIs("P3 step 64", y, 0, 0, 1, 0, 1, 76);
        LetterAuction z = new LetterAuction(6, 0);
        z.worth(4, 5, 1000);
        z.worth(4, 2, 999);
        Check.is("P3 the last job", z.act(4), 5);
        Runs.letterIs("P3 v is the second best", z, 0, 0, 4, 5, 1, 8);
    }

    private static void actChoosesTheLeastOfEqualJobs() {
        LetterAuction x = new LetterAuction(4, 0);
        Check.is("P3 all equal", x.act(3), 0);
        Runs.letterIs("P3 nothing above v", x, 0, 0, 3, 0, 1, 1);
        LetterAuction y = new LetterAuction(4, 1);
        y.worth(0, 1, 10);
        y.worth(0, 3, 10);
        Check.is("P3 two equal", y.act(0), 1);
        Runs.letterIs("P3 v is the equal one", y, 0, 0, 0, 1, 1, 64);
    }

    private static void actUsesKnownPrices() {
        LetterAuction x = Runs.contested();
        x.deliver(0);
        Runs.letterIs("P3 LOSS first", x, 0, 3, 0, 0, 1, 13);
        x.deliver(0);
        x.deliver(0);
        Check.is("P3 known price counts", x.act(0), 1);
        Runs.letterIs("P3 9 above 15 - 13", x, 0, 0, 0, 1, 2, 8);
        LetterAuction y = Runs.pair(0);
        y.act(1);
        y.deliver(0);
        Check.is("P3 a price that it does not know", y.act(0), 0);
        Runs.letterIs("P3 does not count", y, 1, 0, 0, 0, 1, 7);
    }

    private static void actIsRefused() {
        LetterAuction x = Runs.contested();
        Check.badArgument("P3 crew -1", () -> x.act(-1));
        Check.badArgument("P3 crew 2", () -> x.act(2));
        Check.badState("P3 waits", () -> x.act(1));
        Check.badState("P3 holds", () -> x.act(0));
        Check.is("P3 refused acts count nothing", x.count(0), 2);
        Runs.crewIs("P3 refused act changes nothing", x, 0, 2, 0, 1);
    }

    private static void resend() {
        LetterAuction x = Runs.contested();
        Check.is("P4 waiting", x.resend(1), 2);
        Runs.letterIs("P4 as it was", x, 1, 0, 1, 0, 1, 13);
        Check.is("P4 holding", x.resend(0), 3);
        Runs.letterIs("P4 as it was", x, 2, 0, 0, 0, 1, 7);
        Check.is("P4 no first bid", x.count(0), 2);
        Runs.crewIs("P4 bid number stays", x, 1, 1, 0, 1);
        LetterAuction y = Runs.pair(0);
        y.act(0);
        y.lose(0);
        y.act(1);
        y.deliver(0);
        y.lose(0);
        y.resend(0);
        y.deliver(0);
        y.lose(0);
        Check.is("P4 after a lost NO", y.resend(0), 1);
        Runs.letterIs("P4 the amount is not made anew", y, 0, 0, 0, 0, 1, 7);
    }

    private static void resendIsRefused() {
        LetterAuction x = Runs.pair(0);
        Check.badArgument("P4 crew -1", () -> x.resend(-1));
        Check.badArgument("P4 crew 2", () -> x.resend(2));
        Check.badState("P4 free", () -> x.resend(0));
        Runs.settle(x, 2);
        x.worth(0, 0, 0);
        Check.badState("P4 free again", () -> x.resend(0));
        Check.is("P4 the other", x.resend(1), 1);
    }

    private static void deliverBid() {
        LetterAuction x = Runs.pair(0);
        x.act(0);
        x.act(1);
        Check.is("P5 a bid", x.deliver(0), 0);
        Runs.deskIs("P5 taken", x, 0, 7, 0, 1);
        Runs.letterIs("P5 YES behind", x, 1, 1, 0, 0, 1, 7);
        Check.is("P5 a bid", x.deliver(0), 0);
        Runs.deskIs("P5 outbid", x, 0, 13, 1, 1);
        Check.is("P5 LOSS and YES", x.letters(), 3);
        Runs.letterIs("P5 LOSS tells the new price", x, 1, 3, 0, 0, 1, 13);
        Runs.letterIs("P5 YES after LOSS", x, 2, 1, 1, 0, 1, 13);
        LetterAuction y = Runs.pair(0);
        y.act(0);
        y.act(1);
        y.deliver(1);
        Check.is("P5 the low bid comes late", y.deliver(0), 0);
        Runs.deskIs("P5 desk stays", y, 0, 13, 1, 1);
        Runs.letterIs("P5 NO tells the price", y, 1, 2, 0, 0, 1, 13);
    }

    private static void deliverEdgeOfPriceAndStep() {
        LetterAuction x = new LetterAuction(3, 0);
        x.worth(1, 0, 1);
        x.act(0);
        x.deliver(0);
        Runs.deskIs("P5 price 1", x, 0, 1, 0, 1);
        x.act(2);
        x.deliver(1);
        Runs.letterIs("P5 1 is less than 1 + 1", x, 1, 2, 2, 0, 1, 1);
        x.deliver(1);
        x.act(1);
        Runs.letterIs("P5 amount 4 + 1", x, 1, 0, 1, 0, 1, 5);
        x.deliver(1);
        Runs.deskIs("P5 5 is enough", x, 0, 5, 1, 1);
        LetterAuction y = new LetterAuction(2, 1);
        y.worth(0, 0, 22);
        y.worth(1, 0, 1);
        y.act(1);
        y.deliver(0);
        Runs.deskIs("P5 price 67", y, 0, 67, 1, 1);
        y.act(0);
        Runs.letterIs("P5 130", y, 1, 0, 0, 0, 1, 130);
        y.deliver(1);
        Runs.letterIs("P5 130 is less than 67 + 64", y, 1, 2, 0, 0, 1, 67);
        LetterAuction z = new LetterAuction(3, 1);
        z.worth(0, 0, 16);
        z.act(1);
        z.deliver(0);
        z.act(0);
        Runs.letterIs("P5 128", z, 1, 0, 0, 0, 1, 128);
        z.deliver(1);
        Runs.deskIs("P5 128 is not less than 64 + 64", z, 0, 128, 0, 1);
    }

    private static void deliverBidAgain() {
        LetterAuction x = Runs.contested();
        x.resend(0);
        x.deliver(1);
        Runs.letterIs("P5 YES again", x, 1, 1, 0, 0, 1, 7);
        Runs.deskIs("P5 nothing changed", x, 0, 7, 0, 1);
        x.deliver(0);
        x.resend(0);
        x.deliver(3);
        Runs.letterIs("P5 NO after it was outbid", x, 3, 2, 0, 0, 1, 13);
    }

    private static void deliverAnswer() {
        LetterAuction x = Runs.pair(0);
        x.act(0);
        x.act(1);
        x.deliver(0);
        Check.is("P5 YES", x.deliver(1), 1);
        Runs.crewIs("P5 holds", x, 0, 2, 0, 1);
        Check.is("P5 knows", x.known(0, 0), 7);
        x.deliver(0);
        Check.is("P5 LOSS", x.deliver(0), 3);
        Runs.crewIs("P5 free", x, 0, 0, NONE, 1);
        Check.is("P5 knows the new price", x.known(0, 0), 13);
        Check.is("P5 of that job alone", x.known(0, 1), 0);
        x.deliver(0);
        x.act(0);
        x.deliver(0);
        x.deliver(0);
        Check.yes("P5 all hold", x.settled());
        LetterAuction y = Runs.pair(0);
        y.act(0);
        y.act(1);
        y.deliver(1);
        y.deliver(0);
        Check.is("P5 NO", y.deliver(1), 2);
        Runs.crewIs("P5 free after NO", y, 0, 0, NONE, 1);
        Check.is("P5 knows after NO", y.known(0, 0), 13);
    }

    private static void deliverStaleAnswers() {
        LetterAuction x = Runs.pair(0);
        x.act(0);
        x.deliver(0);
        x.act(1);
        x.deliver(1);
        Runs.letterIs("P5 LOSS before the older YES", x, 1, 3, 0, 0, 1, 13);
        x.twin(1);
        x.deliver(1);
        Check.is("P5 YES to a free crew", x.deliver(0), 1);
        Runs.crewIs("P5 stays free", x, 0, 0, NONE, 1);
        x.act(0);
        Runs.letterIs("P5 twin of LOSS", x, 1, 3, 0, 0, 1, 13);
        x.deliver(1);
        Runs.crewIs("P5 LOSS of an earlier bid", x, 0, 1, 1, 2);
        LetterAuction y = Runs.pair(0);
        y.act(0);
        y.deliver(0);
        y.act(1);
        y.deliver(1);
        y.deliver(1);
        y.act(0);
        y.deliver(0);
        Runs.crewIs("P5 YES to an earlier bid", y, 0, 1, 1, 2);
    }

    private static void deliverAmountsOfOldLetters() {
        LetterAuction x = Runs.contested();
        x.resend(0);
        x.deliver(1);
        x.deliver(0);
        x.deliver(1);
        Check.is("P5 learned by LOSS", x.known(0, 0), 13);
        x.deliver(0);
        Check.is("P5 a lower amount teaches nothing", x.known(0, 0), 13);
        LetterAuction y = new LetterAuction(3, 0);
        y.worth(0, 0, 5);
        y.worth(0, 1, 3);
        y.worth(1, 0, 4);
        y.worth(2, 0, 10);
        y.act(1);
        y.deliver(0);
        y.act(0);
        y.twin(1);
        y.deliver(1);
        y.deliver(2);
        Runs.crewIs("P5 freed by NO", y, 0, 0, NONE, 1);
        Check.is("P5 NO teaches", y.known(0, 0), 17);
        y.act(0);
        y.act(2);
        y.deliver(3);
        y.deliver(1);
        Check.is("P5 NO to an earlier bid", y.deliver(4), 2);
        Runs.crewIs("P5 does not free", y, 0, 1, 1, 2);
        Check.is("P5 yet it teaches", y.known(0, 0), 41);
    }

    private static void deliverNoToHolder() {
        LetterAuction x = Runs.contested();
        x.deliver(0);
        x.lose(0);
        Runs.crewIs("P5 the LOSS was lost", x, 0, 2, 0, 1);
        x.resend(0);
        x.deliver(1);
        Check.is("P5 NO", x.deliver(1), 2);
        Runs.crewIs("P5 NO frees a holder", x, 0, 0, NONE, 1);
    }

    private static void deliverIsRefused() {
        LetterAuction x = Runs.pair(0);
        Check.badIndex("P5 no letters", () -> x.deliver(0));
        x.act(0);
        Check.badIndex("P5 -1", () -> x.deliver(-1));
        Check.badIndex("P5 1 of 1", () -> x.deliver(1));
        Check.badIndex("P5 least", () -> x.deliver(Integer.MIN_VALUE));
        Check.badIndex("P5 greatest", () -> x.deliver(Integer.MAX_VALUE));
        Check.is("P5 still there", x.letters(), 1);
    }

    private static void lose() {
        LetterAuction x = new LetterAuction(3, 0);
        Check.badIndex("P6 no letters", () -> x.lose(0));
        x.act(0);
        x.act(1);
        x.act(2);
        Check.badIndex("P6 -1", () -> x.lose(-1));
        Check.badIndex("P6 3 of 3", () -> x.lose(3));
        Check.is("P6 the middle one", x.lose(1), 2);
        Check.is("P6 first stays", x.letter(0, 1), 0);
        Check.is("P6 last moves up", x.letter(1, 1), 2);
        Check.is("P6 the last one", x.lose(1), 1);
        Check.is("P6 the only one", x.lose(0), 0);
        Runs.crewIs("P6 the crew waits on", x, 1, 1, 0, 1);
        Runs.deskIs("P6 the desk heard nothing", x, 0, 0, NONE, 0);
    }

    private static void twin() {
        LetterAuction x = Runs.pair(0);
        x.act(0);
        x.act(1);
        Check.is("P7 how many", x.twin(0), 3);
        Runs.letterIs("P7 the other one is last", x, 2, 0, 0, 0, 1, 7);
        Runs.letterIs("P7 the one stays", x, 0, 0, 0, 0, 1, 7);
        Runs.letterIs("P7 the next stays", x, 1, 0, 1, 0, 1, 13);
        Check.is("P7 a twin is not sent", x.count(0), 2);
        x.deliver(0);
        Check.is("P7 of a YES", x.twin(2), 4);
        Runs.letterIs("P7 YES", x, 3, 1, 0, 0, 1, 7);
        Check.is("P7 one YES was sent", x.count(1), 1);
    }

    private static void twinIsRefused() {
        LetterAuction x = Runs.pair(0);
        Check.badIndex("P7 no letters", () -> x.twin(0));
        x.act(0);
        Check.badIndex("P7 -1", () -> x.twin(-1));
        Check.badIndex("P7 1 of 1", () -> x.twin(1));
    }

    private static void fullPost() {
        LetterAuction x = new LetterAuction(3, 0);
        x.worth(1, 0, 10);
        x.act(0);
        x.act(1);
        for (int i = 3; i <= 39; i++) {
            Check.is("P7 up to 39", x.twin(0), i);
        }
        Check.is("P4 the fortieth", x.resend(0), 40);
        refusedWhenFull(x, 40);
        x.deliver(0);
        x.deliver(0);
        Check.is("P5 over 40", x.letters(), 41);
        refusedWhenFull(x, 41);
        Check.is("P6 back to 40", x.lose(40), 40);
        refusedWhenFull(x, 40);
        Check.is("P6 39", x.lose(39), 39);
        Check.is("P3 the fortieth", x.act(2), 0);
        refusedWhenFull(x, 40);
        x.lose(0);
        Check.is("P7 the fortieth", x.twin(0), 40);
    }

    private static void refusedWhenFull(LetterAuction x, int count) {
        Check.badState("P7 full", () -> x.twin(0));
        Check.badIndex("P7 full, and no such letter", () -> x.twin(count));
        Check.badState("P4 full", () -> x.resend(1));
        Check.badState("P3 full", () -> x.act(2));
        Check.badArgument("P3 full, and no such crew", () -> x.act(3));
        Check.badArgument("P4 full, and no such crew", () -> x.resend(3));
        Check.is("P8 nothing was sent", x.letters(), count);
    }

    private static void letters() {
        LetterAuction x = Runs.pair(0);
        Check.is("P8 none", x.letters(), 0);
        x.act(0);
        Check.is("P8 a bid", x.letters(), 1);
        x.deliver(0);
        Check.is("P8 a YES for it", x.letters(), 1);
        x.deliver(0);
        Check.is("P8 none", x.letters(), 0);
    }

    private static void letter() {
        LetterAuction x = Runs.pair(0);
        Check.badIndex("P9 none", () -> x.letter(0, 0));
        Check.badIndex("P9 none, before what", () -> x.letter(0, 5));
        x.act(1);
        Runs.letterIs("P9 all parts", x, 0, 0, 1, 0, 1, 13);
        Check.badArgument("P9 what -1", () -> x.letter(0, -1));
        Check.badArgument("P9 what 5", () -> x.letter(0, 5));
        Check.badIndex("P9 letter -1", () -> x.letter(-1, 0));
        Check.badIndex("P9 letter 1 of 1", () -> x.letter(1, 0));
        Check.badIndex("P9 letter 1 of 1, before what", () -> x.letter(1, -1));
    }

    private static void crew() {
        LetterAuction x = Runs.contested();
        Runs.crewIs("P10 holds; 15 - 7 or 9", x, 0, 2, 0, 1, 9);
        Runs.crewIs("P10 waits; 12 - 7 or 0", x, 1, 1, 0, 1, 5);
        x.deliver(0);
        Runs.crewIs("P10 the desk's price, not the known one", x, 1, 1, 0, 1, 0);
        x.deliver(0);
        Runs.crewIs("P10 free", x, 0, 0, NONE, 1, 9);
        Runs.settle(x, 2);
        Runs.crewIs("P10 a profit below 0", x, 1, 2, 0, 1, -1);
        Check.badArgument("P10 crew -1", () -> x.crew(-1, 0));
        Check.badArgument("P10 crew 2", () -> x.crew(2, 0));
        Check.badArgument("P10 what -1", () -> x.crew(0, -1));
        Check.badArgument("P10 what 4", () -> x.crew(0, 4));
    }

    private static void known() {
        LetterAuction x = Runs.contested();
        Check.is("P11 told by YES", x.known(0, 0), 7);
        Check.is("P11 not told", x.known(1, 0), 0);
        x.deliver(0);
        Check.is("P11 not told yet", x.known(0, 0), 7);
        x.deliver(0);
        Check.is("P11 told by LOSS", x.known(0, 0), 13);
        Check.badArgument("P11 crew -1", () -> x.known(-1, 0));
        Check.badArgument("P11 crew 2", () -> x.known(2, 0));
        Check.badArgument("P11 job -1", () -> x.known(0, -1));
        Check.badArgument("P11 job 2", () -> x.known(0, 2));
    }

    private static void desk() {
        LetterAuction x = Runs.contested();
        Runs.deskIs("P12 has a crew", x, 0, 7, 0, 1);
        Runs.deskIs("P12 has none", x, 1, 0, NONE, 0);
        x.deliver(0);
        Runs.deskIs("P12 has another", x, 0, 13, 1, 1);
        x.deliver(0);
        x.act(0);
        x.deliver(1);
        Runs.deskIs("P12 by bid 2", x, 1, 8, 0, 2);
        Check.badArgument("P12 job -1", () -> x.desk(-1, 0));
        Check.badArgument("P12 job 2", () -> x.desk(2, 0));
        Check.badArgument("P12 what -1", () -> x.desk(0, -1));
        Check.badArgument("P12 what 3", () -> x.desk(0, 3));
    }

    private static void settled() {
        LetterAuction x = Runs.contested();
        x.deliver(0);
        x.lose(0);
        x.deliver(0);
        Runs.crewIs("P13 both hold", x, 0, 2, 0, 1);
        Runs.crewIs("P13 both hold", x, 1, 2, 0, 1);
        Check.no("P13 but one desk has gone on", x.settled());
        x.resend(0);
        x.deliver(0);
        x.deliver(0);
        x.act(0);
        x.deliver(0);
        Check.no("P13 one waits, though its desk has it", x.settled());
        x.twin(0);
        x.deliver(0);
        Check.yes("P13 settled, with a letter on its way", x.settled());
        x.deliver(0);
        Check.yes("P13 settled", x.settled());
    }

    private static void phase() {
        LetterAuction x = Runs.pair(1);
        Runs.settle(x, 2);
        Runs.deskIs("P14 step 64", x, 0, 70, 0, 1);
        Runs.deskIs("P14 step 64", x, 1, 122, 1, 2);
        x.resend(0);
        Check.is("P14 the next step", x.phase(), 16);
        Check.is("P14 its step", x.count(4), 16);
        Check.is("P14 letters go", x.letters(), 0);
        Runs.deskIs("P14 no crew, price stays", x, 0, 70, NONE, 0);
        Runs.deskIs("P14 no crew, price stays", x, 1, 122, NONE, 0);
        Runs.crewIs("P14 free, number stays", x, 0, 0, NONE, 1);
        Runs.crewIs("P14 free, number stays", x, 1, 0, NONE, 2);
        Check.is("P14 known stays", x.known(0, 0), 70);
        Check.is("P14 known stays", x.known(1, 1), 122);
        Check.is("P14 counts stay", x.count(0), 3);
        x.act(0);
        Runs.letterIs("P14 bids with the new step", x, 0, 0, 0, 1, 2, 80);
        Runs.settle(x, 2);
        Check.is("P14 the third", x.phase(), 4);
        Runs.settle(x, 2);
        Check.is("P14 the last", x.phase(), 1);
        Runs.settle(x, 2);
        Check.badState("P14 no more", () -> x.phase());
        Check.is("P14 the best there is", x.total(), 7);
        Check.yes("P14 proved", x.proves());
    }

    private static void phaseIsRefused() {
        LetterAuction x = Runs.pair(1);
        Check.badState("P14 not settled", () -> x.phase());
        Check.is("P14 step stays", x.count(4), 64);
        Runs.settle(x, 2);
        x.phase();
        Check.badState("P14 all free", () -> x.phase());
        LetterAuction y = Runs.pair(0);
        Runs.settle(y, 2);
        Check.badState("P14 one phase alone", () -> y.phase());
        Check.yes("P14 still settled", y.settled());
    }

    private static void total() {
        LetterAuction x = Runs.pair(0);
        Check.badState("P15 not settled", () -> x.total());
        Runs.settle(x, 2);
        Check.is("P15 3 and 4, not scaled", x.total(), 7);
        LetterAuction y = Runs.pair(1);
        Runs.settle(y, 2);
        Check.is("P15 of what is held in phase 1", y.total(), 5);
        y.phase();
        Check.badState("P15 no more settled", () -> y.total());
    }

    private static void proves() {
        LetterAuction x = Runs.pair(0);
        Check.badState("P16 not settled", () -> x.proves());
        Runs.settle(x, 2);
        Check.yes("P16 22 is above 21 by 1", x.proves());
        LetterAuction y = Runs.pair(1);
        Runs.settle(y, 2);
        Check.no("P16 79 is above 15 by 64", y.proves());
        y.phase();
        Check.badState("P16 no more settled", () -> y.proves());
    }

    private static void count() {
        LetterAuction x = Runs.contested();
        x.deliver(0);
        x.resend(0);
        x.deliver(2);
        Check.is("P17 bids", x.count(0), 2);
        Check.is("P17 YES", x.count(1), 2);
        Check.is("P17 NO", x.count(2), 1);
        Check.is("P17 LOSS", x.count(3), 1);
        Check.is("P17 step", x.count(4), 1);
        x.lose(0);
        x.lose(0);
        x.lose(0);
        Check.is("P17 lost ones were sent", x.count(1), 2);
        Check.badArgument("P17 -1", () -> x.count(-1));
        Check.badArgument("P17 5", () -> x.count(5));
        Check.badArgument("P17 greatest", () -> x.count(Integer.MAX_VALUE));
    }
}
