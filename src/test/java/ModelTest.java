import java.util.ArrayList;
import java.util.List;
import java.util.Random;

/** Long chance runs of calls, each answer held against a second program and against all pairings. */
public final class ModelTest {
    private static final int RUNS = 600;
    private static final int CALLS = 512;
    private static final String BAD_ARGUMENT = "throws.IllegalArgumentException";
    private static final String BAD_STATE = "throws.IllegalStateException";
    private static final String BAD_INDEX = "throws.IndexOutOfBoundsException";

    private static int doneSeen = 0;
    private static int changedWhenDone = 0;
    private static int aboveByJustTooMuch = 0;
    private static int aboveByJustLittleEnough = 0;
    private static int overForty = 0;

    private ModelTest() {
    }

    public static void main(String[] args) {
        for (int run = 0; run < RUNS; run++) {
            oneRun(new Random(run), run);
        }
        Check.yes("runs that were done: " + doneSeen, doneSeen > 100);
        Check.yes("worths changed when done: " + changedWhenDone, changedWhenDone > 100);
        Check.yes("above by N + 1 exactly: " + aboveByJustTooMuch, aboveByJustTooMuch > 0);
        Check.yes("above by N exactly: " + aboveByJustLittleEnough, aboveByJustLittleEnough > 0);
        Check.yes("more than 40 letters: " + overForty, overForty > 0);
        Check.end();
    }

    private static void oneRun(Random chance, int run) {
        int n = 2 + chance.nextInt(5);
        int phases = chance.nextInt(2);
        int greatestWorth = new int[] {2, 20, 1000}[chance.nextInt(3)];
        int style = chance.nextInt(3);
        LetterAuction x = new LetterAuction(n, phases);
        Model m = new Model(n, phases);
        for (int crew = 0; crew < n; crew++) {
            for (int job = 0; job < n; job++) {
                int worth = chance.nextInt(greatestWorth + 1);
                x.worth(crew, job, worth);
                m.worth(crew, job, worth);
            }
        }
        for (int call = 0; call < CALLS; call++) {
            int[] next = nextCall(chance, m, style, greatestWorth);
            String name = "run " + run + " call " + call + " " + java.util.Arrays.toString(next);
            Check.same(name, callProgram(x, next), callModel(m, next));
            compareStates(name, x, m);
        }
    }

    private static final int WORTH = 0;
    private static final int ACT = 1;
    private static final int RESEND = 2;
    private static final int DELIVER = 3;
    private static final int LOSE = 4;
    private static final int TWIN = 5;
    private static final int PHASE = 6;
    private static final int LETTER = 7;
    private static final int CREW = 8;
    private static final int KNOWN = 9;
    private static final int DESK = 10;
    private static final int COUNT = 11;

    /** Style 0 mostly gets the auction on, 1 disturbs it, 2 fills the post. */
    private static int[] nextCall(Random chance, Model m, int style, int greatestWorth) {
        int i = m.letters.isEmpty() ? 0 : chance.nextInt(m.letters.size());
        int crew = chance.nextInt(m.n);
        int dice = chance.nextInt(100);
        if (dice < 4) {
            return new int[] {chance.nextInt(12), chance.nextInt(9) - 1, chance.nextInt(9) - 1,
                chance.nextInt(1200) - 100};
        }
        if (m.settled() && dice < 50) {
            return m.isLast()
                ? new int[] {WORTH, crew, chance.nextInt(m.n), chance.nextInt(greatestWorth + 1)}
                : new int[] {PHASE};
        }
        if (style == 1 && dice < 25 || style == 2 && dice < 60) {
            int[] kinds = style == 1 ? new int[] {LOSE, TWIN, RESEND} : new int[] {TWIN, RESEND};
            int kind = kinds[chance.nextInt(kinds.length)];
            return new int[] {kind, kind == RESEND ? crew : i};
        }
        if (m.state[crew] == 0) {
            return new int[] {ACT, crew};
        }
        return m.letters.isEmpty() ? new int[] {RESEND, crew} : new int[] {DELIVER, i};
    }

    private static int at(int[] call, int i) {
        return i < call.length ? call[i] : 0;
    }

    private static String callProgram(LetterAuction x, int[] c) {
        int a = at(c, 1);
        int b = at(c, 2);
        return switch (c[0]) {
            case WORTH -> Check.thrownBy(() -> x.worth(a, b, at(c, 3)));
            case ACT -> Check.outcome(() -> x.act(a));
            case RESEND -> Check.outcome(() -> x.resend(a));
            case DELIVER -> Check.outcome(() -> x.deliver(a));
            case LOSE -> Check.outcome(() -> x.lose(a));
            case TWIN -> Check.outcome(() -> x.twin(a));
            case PHASE -> Check.outcome(x::phase);
            case LETTER -> Check.outcome(() -> x.letter(a, b));
            case CREW -> Check.outcome(() -> x.crew(a, b));
            case KNOWN -> Check.outcome(() -> x.known(a, b));
            case DESK -> Check.outcome(() -> x.desk(a, b));
            default -> Check.outcome(() -> x.count(a));
        };
    }

    private static String callModel(Model m, int[] c) {
        int a = at(c, 1);
        int b = at(c, 2);
        return switch (c[0]) {
            case WORTH -> m.worth(a, b, at(c, 3));
            case ACT -> m.act(a);
            case RESEND -> m.resend(a);
            case DELIVER -> m.deliver(a);
            case LOSE -> m.lose(a);
            case TWIN -> m.twin(a);
            case PHASE -> m.phase();
            case LETTER -> m.letter(a, b);
            case CREW -> m.crew(a, b);
            case KNOWN -> m.known(a, b);
            case DESK -> m.desk(a, b);
            default -> m.count(a);
        };
    }

    private static void compareStates(String name, LetterAuction x, Model m) {
        StringBuilder got = new StringBuilder();
        StringBuilder due = new StringBuilder();
        for (int i = 0; i < x.letters(); i++) {
            for (int what = 0; what < 5; what++) {
                got.append(x.letter(i, what)).append(' ');
            }
        }
        for (int[] letter : m.letters) {
            for (int part : letter) {
                due.append(part).append(' ');
            }
        }
        for (int i = 0; i < m.n; i++) {
            for (int what = 0; what < 4; what++) {
                got.append(" c").append(x.crew(i, what));
                due.append(" c").append(m.crew(i, what));
            }
            for (int what = 0; what < 3; what++) {
                got.append(" d").append(x.desk(i, what));
                due.append(" d").append(m.desk(i, what));
            }
            for (int job = 0; job < m.n; job++) {
                got.append(" k").append(x.known(i, job));
                due.append(" k").append(m.known(i, job));
            }
        }
        for (int which = 0; which < 5; which++) {
            got.append(" n").append(x.count(which));
            due.append(" n").append(m.count(which));
        }
        Check.same(name + " then the state", got.toString(), due.toString());
        Check.is(name + " then letters", x.letters(), m.letters.size());
        Check.same(name + " then settled", x.settled(), m.settled());
        Check.same(name + " then total", Check.outcome(x::total), m.total());
        Check.same(name + " then proves", Check.outcome(() -> x.proves() ? 1 : 0), m.proves());
        overForty += x.letters() > 40 ? 1 : 0;
        if (m.settled()) {
            checkProof(name, x, m);
        }
    }

    private static void checkProof(String name, LetterAuction x, Model m) {
        aboveByJustTooMuch += m.above() == m.n + 1 ? 1 : 0;
        aboveByJustLittleEnough += m.above() == m.n ? 1 : 0;
        if (m.isLast()) {
            doneSeen++;
            Check.yes(name + " proves when done", x.proves());
        }
        if (x.proves()) {
            Check.is(name + " is the greatest there is", x.total(), m.greatest(0, 0));
        }
    }

    /** The document's words once more, without care for speed or room. */
    private static final class Model {
        final int n;
        final int[] steps;
        int phaseNow = 0;
        final int[][] worth;
        final int[][] knows;
        final int[] state;
        final int[] target;
        final int[] number;
        final int[][] latest;
        final int[] price;
        final int[] deskCrew;
        final int[] deskNumber;
        final List<int[]> letters = new ArrayList<>();
        final int[] sent = new int[4];

        Model(int n, int phases) {
            this.n = n;
            steps = phases == 0 ? new int[] {1} : new int[] {64, 16, 4, 1};
            worth = new int[n][n];
            knows = new int[n][n];
            state = new int[n];
            target = new int[n];
            number = new int[n];
            latest = new int[n][];
            price = new int[n];
            deskCrew = new int[n];
            deskNumber = new int[n];
            java.util.Arrays.fill(deskCrew, -1);
        }

        boolean isLast() {
            return phaseNow == steps.length - 1;
        }

        boolean lacks(int i) {
            return i < 0 || i >= n;
        }

        boolean lacksLetter(int i) {
            return i < 0 || i >= letters.size();
        }

        boolean hasBidBefore() {
            for (int bids : number) {
                if (bids > 0) {
                    return true;
                }
            }
            return false;
        }

        String worth(int crew, int job, int w) {
            if (lacks(crew) || lacks(job) || w < 0 || w > 1000) {
                return BAD_ARGUMENT;
            }
            if (hasBidBefore()) {
                if (!isLast() || !settled()) {
                    return BAD_STATE;
                }
                changedWhenDone++;
                letters.clear();
                deskCrew[target[crew]] = -1;
                deskNumber[target[crew]] = 0;
                state[crew] = 0;
            }
            worth[crew][job] = w;
            return "0";
        }

        int value(int crew, int job) {
            return worth[crew][job] * (n + 1) - knows[crew][job];
        }

        String act(int crew) {
            if (lacks(crew)) {
                return BAD_ARGUMENT;
            }
            if (state[crew] != 0 || letters.size() >= 40) {
                return BAD_STATE;
            }
            List<Integer> jobs = new ArrayList<>();
            for (int job = 0; job < n; job++) {
                jobs.add(job);
            }
            jobs.sort((a, b) -> value(crew, b) - value(crew, a));
            int best = jobs.get(0);
            int lead = value(crew, best) - value(crew, jobs.get(1));
            number[crew]++;
            target[crew] = best;
            state[crew] = 1;
            sent[0]++;
            latest[crew] = new int[] {0, crew, best, number[crew],
                knows[crew][best] + lead + steps[phaseNow]};
            letters.add(latest[crew]);
            return Integer.toString(best);
        }

        String resend(int crew) {
            if (lacks(crew)) {
                return BAD_ARGUMENT;
            }
            if (state[crew] == 0 || letters.size() >= 40) {
                return BAD_STATE;
            }
            letters.add(latest[crew]);
            return Integer.toString(letters.size());
        }

        String deliver(int i) {
            if (lacksLetter(i)) {
                return BAD_INDEX;
            }
            int[] l = letters.remove(i);
            int crew = l[1];
            int job = l[2];
            if (l[0] == 0) {
                bidComes(crew, job, l[3], l[4]);
                return "0";
            }
            if (l[4] > knows[crew][job]) {
                knows[crew][job] = l[4];
            }
            if (l[3] == number[crew]) {
                if (l[0] == 1 && state[crew] == 1) {
                    state[crew] = 2;
                }
                if (l[0] != 1) {
                    state[crew] = 0;
                }
            }
            return Integer.toString(l[0]);
        }

        void bidComes(int crew, int job, int bid, int amount) {
            if (deskCrew[job] == crew && deskNumber[job] == bid) {
                answer(1, crew, job, bid);
                return;
            }
            if (amount < price[job] + steps[phaseNow]) {
                answer(2, crew, job, bid);
                return;
            }
            price[job] = amount;
            if (deskCrew[job] >= 0) {
                answer(3, deskCrew[job], job, deskNumber[job]);
            }
            deskCrew[job] = crew;
            deskNumber[job] = bid;
            answer(1, crew, job, bid);
        }

        void answer(int kind, int crew, int job, int bid) {
            sent[kind]++;
            letters.add(new int[] {kind, crew, job, bid, price[job]});
        }

        String lose(int i) {
            if (lacksLetter(i)) {
                return BAD_INDEX;
            }
            letters.remove(i);
            return Integer.toString(letters.size());
        }

        String twin(int i) {
            if (lacksLetter(i)) {
                return BAD_INDEX;
            }
            if (letters.size() >= 40) {
                return BAD_STATE;
            }
            letters.add(letters.get(i));
            return Integer.toString(letters.size());
        }

        String letter(int i, int what) {
            if (lacksLetter(i)) {
                return BAD_INDEX;
            }
            return what < 0 || what > 4 ? BAD_ARGUMENT : Integer.toString(letters.get(i)[what]);
        }

        int profit(int crew) {
            int most = Integer.MIN_VALUE;
            for (int job = 0; job < n; job++) {
                most = Math.max(most, worth[crew][job] * (n + 1) - price[job]);
            }
            return most;
        }

        String crew(int crew, int what) {
            if (lacks(crew) || what < 0 || what > 3) {
                return BAD_ARGUMENT;
            }
            int[] parts = {state[crew], state[crew] == 0 ? -1 : target[crew], number[crew],
                profit(crew)};
            return Integer.toString(parts[what]);
        }

        String known(int crew, int job) {
            return lacks(crew) || lacks(job) ? BAD_ARGUMENT : Integer.toString(knows[crew][job]);
        }

        String desk(int job, int what) {
            if (lacks(job) || what < 0 || what > 2) {
                return BAD_ARGUMENT;
            }
            int[] parts = {price[job], deskCrew[job], deskNumber[job]};
            return Integer.toString(parts[what]);
        }

        boolean settled() {
            for (int crew = 0; crew < n; crew++) {
                int job = target[crew];
                if (state[crew] != 2 || deskCrew[job] != crew || deskNumber[job] != number[crew]) {
                    return false;
                }
            }
            return true;
        }

        String phase() {
            if (!settled() || isLast()) {
                return BAD_STATE;
            }
            phaseNow++;
            letters.clear();
            java.util.Arrays.fill(state, 0);
            java.util.Arrays.fill(deskCrew, -1);
            java.util.Arrays.fill(deskNumber, 0);
            return Integer.toString(steps[phaseNow]);
        }

        int held() {
            int sum = 0;
            for (int crew = 0; crew < n; crew++) {
                sum += worth[crew][target[crew]];
            }
            return sum;
        }

        int above() {
            int sum = -(n + 1) * held();
            for (int i = 0; i < n; i++) {
                sum += price[i] + profit(i);
            }
            return sum;
        }

        String total() {
            return settled() ? Integer.toString(held()) : BAD_STATE;
        }

        String proves() {
            return !settled() ? BAD_STATE : above() < n + 1 ? "1" : "0";
        }

        String count(int which) {
            if (which < 0 || which > 4) {
                return BAD_ARGUMENT;
            }
            return Integer.toString(which == 4 ? steps[phaseNow] : sent[which]);
        }

        /** The greatest worths together of crews from this one on, for jobs not taken yet. */
        int greatest(int crew, int taken) {
            if (crew == n) {
                return 0;
            }
            int most = 0;
            for (int job = 0; job < n; job++) {
                if ((taken & 1 << job) == 0) {
                    most = Math.max(most, worth[crew][job] + greatest(crew + 1, taken | 1 << job));
                }
            }
            return most;
        }
    }
}
