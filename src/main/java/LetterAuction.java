/** Crews bid for jobs by letters; ../shared/DOC.md has the promises that this class keeps. */
public final class LetterAuction {
    public static final int NONE = -1;

    private static final int LEAST_SIZE = 2;
    private static final int GREATEST_SIZE = 6;
    private static final int GREATEST_WORTH = 1000;
    private static final int[] STEPS = {64, 16, 4, 1};
    private static final int LAST_PHASE = 3;

    private static final int FREE = 0;
    private static final int WAITING = 1;
    private static final int HOLDING = 2;

    private static final int BID = 0;
    private static final int YES = 1;
    private static final int NO = 2;
    private static final int LOSS = 3;
    private static final int KINDS = 4;

    private static final int KIND_PART = 0;
    private static final int CREW_PART = 1;
    private static final int JOB_PART = 2;
    private static final int NUMBER_PART = 3;
    private static final int AMOUNT_PART = 4;
    private static final int PARTS = 5;

    private static final int FULL_POST = 40;

    private final int size;
    private final Crew[] crews;
    private final Desk[] desks;
    private final Post post;
    private final int[] sentOfKind;
    private int phaseNow;

    public LetterAuction(int n, int phases) {
        size = Math.max(LEAST_SIZE, Math.min(GREATEST_SIZE, n));
        crews = new Crew[size];
        desks = new Desk[size];
        for (int i = 0; i < size; i++) {
            crews[i] = new Crew(size);
            desks[i] = new Desk();
        }
        post = new Post();
        sentOfKind = new int[KINDS];
        phaseNow = phases == 0 ? LAST_PHASE : 0;
    }

    public void worth(int crew, int job, int worth)
            throws IllegalArgumentException, IllegalStateException {
        requireArgument(isIndex(crew) && isIndex(job));
        requireArgument(worth >= 0 && worth <= GREATEST_WORTH);
        boolean begun = sentOfKind[BID] > 0;
        requireState(!begun || isDone());
        Crew changed = crews[crew];
        changed.worths[job] = worth;
        if (begun) {
            post.clear();
            desks[changed.target].dismiss();
            changed.release();
        }
    }

    public int act(int crew) throws IllegalArgumentException, IllegalStateException {
        requireArgument(isIndex(crew));
        Crew bidder = crews[crew];
        requireState(bidder.state == FREE && post.size < FULL_POST);
        bidder.chooseBid(STEPS[phaseNow]);
        sentOfKind[BID]++;
        sendBid(crew);
        return bidder.target;
    }

    public int resend(int crew) throws IllegalArgumentException, IllegalStateException {
        requireArgument(isIndex(crew));
        requireState(crews[crew].state != FREE && post.size < FULL_POST);
        sendBid(crew);
        return post.size;
    }

    public int deliver(int i) throws IndexOutOfBoundsException {
        requireLetter(i);
        int kind = post.part(i, KIND_PART);
        int crew = post.part(i, CREW_PART);
        int job = post.part(i, JOB_PART);
        int number = post.part(i, NUMBER_PART);
        int amount = post.part(i, AMOUNT_PART);
        post.remove(i);
        if (kind == BID) {
            receiveBid(crew, job, number, amount);
        } else {
            crews[crew].learn(job, amount);
            crews[crew].hear(kind, number);
        }
        return kind;
    }

    public int lose(int i) throws IndexOutOfBoundsException {
        requireLetter(i);
        post.remove(i);
        return post.size;
    }

    public int twin(int i) throws IndexOutOfBoundsException, IllegalStateException {
        requireLetter(i);
        requireState(post.size < FULL_POST);
        post.add(post.part(i, KIND_PART), post.part(i, CREW_PART), post.part(i, JOB_PART),
                post.part(i, NUMBER_PART), post.part(i, AMOUNT_PART));
        return post.size;
    }

    public int letters() {
        return post.size;
    }

    public int letter(int i, int what)
            throws IndexOutOfBoundsException, IllegalArgumentException {
        requireLetter(i);
        requireArgument(what >= 0 && what < PARTS);
        return post.part(i, what);
    }

    public int crew(int crew, int what) throws IllegalArgumentException {
        requireArgument(isIndex(crew) && what >= 0 && what <= 3);
        Crew asked = crews[crew];
        switch (what) {
            case 0:
                return asked.state;
            case 1:
                return asked.target;
            case 2:
                return asked.number;
            default:
                return profitOf(asked);
        }
    }

    public int known(int crew, int job) throws IllegalArgumentException {
        requireArgument(isIndex(crew) && isIndex(job));
        return crews[crew].prices[job];
    }

    public int desk(int job, int what) throws IllegalArgumentException {
        requireArgument(isIndex(job) && what >= 0 && what <= 2);
        Desk asked = desks[job];
        switch (what) {
            case 0:
                return asked.price;
            case 1:
                return asked.holder;
            default:
                return asked.number;
        }
    }

    public boolean settled() {
        for (int i = 0; i < size; i++) {
            Crew asked = crews[i];
            if (asked.state != HOLDING || !desks[asked.target].has(i, asked.number)) {
                return false;
            }
        }
        return true;
    }

    public int phase() throws IllegalStateException {
        requireState(settled() && phaseNow < LAST_PHASE);
        phaseNow++;
        post.clear();
        for (int i = 0; i < size; i++) {
            desks[i].dismiss();
            crews[i].release();
        }
        return STEPS[phaseNow];
    }

    public int total() throws IllegalStateException {
        requireState(settled());
        int sum = 0;
        for (int i = 0; i < size; i++) {
            sum += crews[i].worths[crews[i].target];
        }
        return sum;
    }

    public boolean proves() throws IllegalStateException {
        requireState(settled());
        int above = 0;
        for (int i = 0; i < size; i++) {
            above += desks[i].price + profitOf(crews[i]) - crews[i].scaledWorth(crews[i].target);
        }
        return above < size + 1;
    }

    public int count(int which) throws IllegalArgumentException {
        requireArgument(which >= 0 && which <= KINDS);
        return which == KINDS ? STEPS[phaseNow] : sentOfKind[which];
    }

    private boolean isIndex(int i) {
        return i >= 0 && i < size;
    }

    private boolean isDone() {
        return phaseNow == LAST_PHASE && settled();
    }

    private int profitOf(Crew crew) {
        int greatest = crew.scaledWorth(0) - desks[0].price;
        for (int job = 1; job < size; job++) {
            greatest = Math.max(greatest, crew.scaledWorth(job) - desks[job].price);
        }
        return greatest;
    }

    private void sendBid(int crew) {
        Crew bidder = crews[crew];
        post.add(BID, crew, bidder.target, bidder.number, bidder.amount);
    }

    private void sendAnswer(int kind, int crew, int job, int number) {
        sentOfKind[kind]++;
        post.add(kind, crew, job, number, desks[job].price);
    }

    private void receiveBid(int crew, int job, int number, int amount) {
        Desk asked = desks[job];
        if (asked.has(crew, number)) {
            sendAnswer(YES, crew, job, number);
        } else if (amount >= asked.price + STEPS[phaseNow]) {
            // The price is set first because LOSS tells the new one.
            asked.price = amount;
            if (asked.holder != NONE) {
                sendAnswer(LOSS, asked.holder, job, asked.number);
            }
            asked.holder = crew;
            asked.number = number;
            sendAnswer(YES, crew, job, number);
        } else {
            sendAnswer(NO, crew, job, number);
        }
    }

    private void requireLetter(int i) {
        if (i < 0 || i >= post.size) {
            throw new IndexOutOfBoundsException("there is no such letter");
        }
    }

    private static void requireArgument(boolean holds) {
        if (!holds) {
            throw new IllegalArgumentException("an argument is out of range");
        }
    }

    private static void requireState(boolean holds) {
        if (!holds) {
            throw new IllegalStateException("the call does not fit the state");
        }
    }

    private static final class Crew {
        private final int[] worths;
        private final int[] prices;
        private int state = FREE;
        private int target = NONE;
        private int number = 0;
        private int amount = 0;

        private Crew(int size) {
            worths = new int[size];
            prices = new int[size];
        }

        private int scaledWorth(int job) {
            return worths[job] * (worths.length + 1);
        }

        private int valueOf(int job) {
            return scaledWorth(job) - prices[job];
        }

        /** The job of the greatest value but for one; with NONE, of all. */
        private int bestJobBut(int left) {
            int best = left == 0 ? 1 : 0;
            for (int job = best + 1; job < worths.length; job++) {
                if (job != left && valueOf(job) > valueOf(best)) {
                    best = job;
                }
            }
            return best;
        }

        private void chooseBid(int step) {
            target = bestJobBut(NONE);
            amount = prices[target] + valueOf(target) - valueOf(bestJobBut(target)) + step;
            number++;
            state = WAITING;
        }

        private void learn(int job, int price) {
            prices[job] = Math.max(prices[job], price);
        }

        /** An answer to an earlier bid is out of date: it must not touch the state. */
        private void hear(int kind, int answered) {
            if (answered != number || state == FREE) {
                return;
            }
            if (kind == YES) {
                state = HOLDING;
            } else {
                release();
            }
        }

        private void release() {
            state = FREE;
            target = NONE;
        }
    }

    private static final class Desk {
        private int price = 0;
        private int holder = NONE;
        private int number = 0;

        private boolean has(int crew, int bidNumber) {
            return holder == crew && number == bidNumber;
        }

        private void dismiss() {
            holder = NONE;
            number = 0;
        }
    }

    /** The letters on their way, in the order in which they were sent, one row of parts each. */
    private static final class Post {
        // Bids are sent and letters doubled only below FULL_POST, and a bid that comes
        // leaves at most two letters in its place, so there are never more than this.
        private static final int ROOM = 2 * FULL_POST;

        private final int[] parts = new int[ROOM * PARTS];
        private int size = 0;

        private int part(int i, int what) {
            return parts[i * PARTS + what];
        }

        private void add(int kind, int crew, int job, int number, int amount) {
            if (size >= ROOM) {
                return;
            }
            int start = size * PARTS;
            parts[start + KIND_PART] = kind;
            parts[start + CREW_PART] = crew;
            parts[start + JOB_PART] = job;
            parts[start + NUMBER_PART] = number;
            parts[start + AMOUNT_PART] = amount;
            size++;
        }

        private void remove(int i) {
            int next = (i + 1) * PARTS;
            System.arraycopy(parts, next, parts, i * PARTS, size * PARTS - next);
            size--;
        }

        private void clear() {
            size = 0;
        }
    }
}
