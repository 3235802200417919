/** Elections of a fishing fleet. */
public final class FleetTerms {
    private static final int LEAST_BOATS = 3;
    private static final int FIRST_BOATS = 5;
    private static final int MOST_BOATS = 7;
    private static final int LEAST_PATIENCE = 2;
    private static final int MOST_PATIENCE = 9;
    private static final int HARBOURS = 3;
    private static final int MOST_ENTRIES = 10;
    private static final int MOST_FISH = 99;
    private static final int MOST_HOURS = 50;
    private static final int MOST_HOURS_ADVISED = 20;
    private static final int MOST_HOURS_AWAITED = 60;

    private static final int FOLLOWS = 0;
    private static final int STANDS = 1;
    private static final int LEADS = 2;
    private static final int NONE = -1;

    private static final int KINDS_OF_COUNT = 10;
    private static final int FIRST_FORESEEN = 3;
    private static final int KINDS_OF_TOLD = 10;
    private static final int KINDS_OF_ENTRY = 3;
    private static final int KINDS_OF_HARBOUR = 3;
    private static final long DIGEST_START = 1759L;
    private static final long DIGEST_FACTOR = 31L;

    private final Fleet now;
    // What would be is tried out here, so that no call has to make new rows.
    private final Fleet trial;

    public FleetTerms() {
        now = new Fleet();
        trial = new Fleet();
        now.begin(FIRST_BOATS);
    }

    // ---- the fleet

    public int fleet(int boats) throws IllegalArgumentException {
        if (boats < LEAST_BOATS || boats > MOST_BOATS) {
            throw new IllegalArgumentException("boats is not 3 to 7");
        }
        now.begin(boats);
        return boats / 2 + 1;
    }

    public int setPatience(int boat, int patience)
            throws IndexOutOfBoundsException, IllegalArgumentException {
        needBoat(boat);
        if (patience < LEAST_PATIENCE || patience > MOST_PATIENCE) {
            throw new IllegalArgumentException("patience is not 2 to 9");
        }
        int before = now.patience[boat];
        now.patience[boat] = patience;
        return before;
    }

    public int go(int boat, int harbour) throws IndexOutOfBoundsException {
        needBoat(boat);
        needBelow(harbour, HARBOURS);
        int before = now.port[boat];
        now.port[boat] = harbour;
        return before;
    }

    public boolean sink(int boat) throws IndexOutOfBoundsException {
        needBoat(boat);
        if (now.up[boat]) {
            now.up[boat] = false;
        } else {
            now.raise(boat);
        }
        return now.up[boat];
    }

    public int write(int boat, int fish)
            throws IndexOutOfBoundsException, IllegalArgumentException, IllegalStateException {
        needBoat(boat);
        if (fish < 0 || fish > MOST_FISH) {
            throw new IllegalArgumentException("fish is not 0 to 99");
        }
        if (!now.leadsNow(boat)) {
            throw new IllegalStateException("the boat is sunk, or does not lead");
        }
        if (now.logs.length[boat] >= MOST_ENTRIES) {
            throw new IllegalStateException("the log has 10 entries");
        }
        now.logs.append(boat, now.term[boat], fish);
        return now.logs.length[boat] - 1;
    }

    // ---- hours

    public int pass(int hours) throws IllegalArgumentException {
        needHours(hours, MOST_HOURS);
        int before = now.begun;
        now.passHours(hours);
        return now.begun - before;
    }

    // ---- what there is

    public int told(int boat, int what) throws IndexOutOfBoundsException {
        needBoat(boat);
        needBelow(what, KINDS_OF_TOLD);
        return now.ofBoat(boat, what);
    }

    public int entry(int boat, int place, int what) throws IndexOutOfBoundsException {
        needBoat(boat);
        needBelow(place, now.logs.length[boat]);
        needBelow(what, KINDS_OF_ENTRY);
        return now.ofEntry(boat, place, what);
    }

    public int agree(int a, int b) throws IndexOutOfBoundsException {
        needBoat(a);
        needBoat(b);
        return now.logs.agreement(a, b);
    }

    public boolean newer(int a, int b) throws IndexOutOfBoundsException {
        needBoat(a);
        needBoat(b);
        return now.logs.asNew(a, b);
    }

    public int leader() {
        int best = NONE;
        for (int boat = 0; boat < now.boats; boat++) {
            if (now.leadsNow(boat) && (best == NONE || now.term[boat] > now.term[best])) {
                best = boat;
            }
        }
        return best;
    }

    public int count(int what) throws IndexOutOfBoundsException {
        needBelow(what, KINDS_OF_COUNT);
        return now.ofFleet(what);
    }

    public int harbour(int harbour, int what) throws IndexOutOfBoundsException {
        needBelow(harbour, HARBOURS);
        needBelow(what, KINDS_OF_HARBOUR);
        if (what == 2) {
            return now.newestIn(harbour);
        }
        int there = now.upIn(harbour);
        if (what == 1) {
            return now.isMoreThanHalf(there) ? 1 : 0;
        }
        return there;
    }

    // ---- what would be

    public int until() {
        trial.copyFrom(now);
        for (int hours = 0; hours <= MOST_HOURS_AWAITED; hours++) {
            if (trial.isLed()) {
                return hours;
            }
            trial.passHours(1);
        }
        return NONE;
    }

    public int foresee(int hours, int what)
            throws IllegalArgumentException, IndexOutOfBoundsException {
        needHours(hours, MOST_HOURS);
        if (what < FIRST_FORESEEN || what >= KINDS_OF_COUNT) {
            throw new IndexOutOfBoundsException("what is not 3 to 9");
        }
        trial.copyFrom(now);
        trial.passHours(hours);
        return trial.ofFleet(what);
    }

    public int advise(int boat, int hours)
            throws IndexOutOfBoundsException, IllegalArgumentException, IllegalStateException {
        needBoat(boat);
        needHours(hours, MOST_HOURS_ADVISED);
        if (!now.up[boat]) {
            throw new IllegalStateException("the boat is sunk");
        }
        int best = 0;
        int most = NONE;
        for (int harbour = 0; harbour < HARBOURS; harbour++) {
            trial.copyFrom(now);
            trial.port[boat] = harbour;
            trial.passHours(hours);
            int committed = trial.mostKnown();
            if (committed > most) {
                best = harbour;
                most = committed;
            }
        }
        return best;
    }

    public double mean() {
        int total = 0;
        for (int boat = 0; boat < now.boats; boat++) {
            total += now.logs.known[boat];
        }
        return now.boats > 0 ? (double) total / (double) now.boats : 0.0;
    }

    public long digest() {
        long d = DIGEST_START;
        for (int what = 0; what < KINDS_OF_COUNT; what++) {
            d = d * DIGEST_FACTOR + now.ofFleet(what);
        }
        for (int boat = 0; boat < now.boats; boat++) {
            d = digestOfBoat(d, boat);
        }
        return d;
    }

    private long digestOfBoat(long start, int boat) {
        long d = start;
        for (int what = 0; what < KINDS_OF_TOLD; what++) {
            d = d * DIGEST_FACTOR + now.ofBoat(boat, what);
        }
        for (int place = 0; place < now.logs.length[boat]; place++) {
            for (int what = 0; what < KINDS_OF_ENTRY; what++) {
                d = d * DIGEST_FACTOR + now.ofEntry(boat, place, what);
            }
        }
        return d;
    }

    private void needBoat(int boat) throws IndexOutOfBoundsException {
        if (boat < 0 || boat >= now.boats) {
            throw new IndexOutOfBoundsException("no such boat");
        }
    }

    private void needBelow(int number, int bound) throws IndexOutOfBoundsException {
        if (number < 0 || number >= bound) {
            throw new IndexOutOfBoundsException("no such number");
        }
    }

    private void needHours(int hours, int most) throws IllegalArgumentException {
        if (hours < 1 || hours > most) {
            throw new IllegalArgumentException("too few or too many hours");
        }
    }

    /** The logs of all boats: in terms and fishes each boat has MOST_ENTRIES places, one boat behind the other. */
    private static final class Logs {
        final int[] length = new int[MOST_BOATS];
        final int[] known = new int[MOST_BOATS];
        final int[] terms = new int[MOST_BOATS * MOST_ENTRIES];
        final int[] fishes = new int[MOST_BOATS * MOST_ENTRIES];

        void clear(int boat) {
            length[boat] = 0;
            known[boat] = 0;
        }

        void copyFrom(Logs other) {
            System.arraycopy(other.length, 0, length, 0, MOST_BOATS);
            System.arraycopy(other.known, 0, known, 0, MOST_BOATS);
            System.arraycopy(other.terms, 0, terms, 0, MOST_BOATS * MOST_ENTRIES);
            System.arraycopy(other.fishes, 0, fishes, 0, MOST_BOATS * MOST_ENTRIES);
        }

        int termAt(int boat, int place) {
            return terms[boat * MOST_ENTRIES + place];
        }

        int fishAt(int boat, int place) {
            return fishes[boat * MOST_ENTRIES + place];
        }

        int lastTerm(int boat) {
            return length[boat] > 0 ? terms[boat * MOST_ENTRIES + length[boat] - 1] : NONE;
        }

        void append(int boat, int term, int fish) {
            if (length[boat] >= MOST_ENTRIES) {
                return;
            }
            int end = boat * MOST_ENTRIES + length[boat];
            terms[end] = term;
            fishes[end] = fish;
            length[boat]++;
        }

        void loseLast(int boat) {
            if (length[boat] > 0) {
                length[boat]--;
            }
        }

        int agreement(int a, int b) {
            int ofA = a * MOST_ENTRIES;
            int ofB = b * MOST_ENTRIES;
            int shorter = Math.min(length[a], length[b]);
            int same = 0;
            while (same < shorter && terms[ofA + same] == terms[ofB + same]
                    && fishes[ofA + same] == fishes[ofB + same]) {
                same++;
            }
            return same;
        }

        /** Whether the log of a is as new as that of b, or newer. */
        boolean asNew(int a, int b) {
            int termOfA = lastTerm(a);
            int termOfB = lastTerm(b);
            return termOfA > termOfB || (termOfA == termOfB && length[a] >= length[b]);
        }

        /** Gives the other one the teller's next entry, or cuts its last one; answers whether it cut. */
        boolean mend(int teller, int other) {
            int agreed = agreement(teller, other);
            if (length[other] > agreed) {
                loseLast(other);
                return true;
            }
            if (agreed < length[teller]) {
                append(other, termAt(teller, agreed), fishAt(teller, agreed));
            }
            return false;
        }

        void learnCommitted(int teller, int other) {
            int told = Math.min(known[teller], agreement(teller, other));
            known[other] = Math.max(known[other], told);
        }
    }

    /** A fleet at an hour, and how hours go by. Its calls are few deep, as LANGUAGE.md rule 11 wants it. */
    private static final class Fleet {
        int boats;
        int hour;
        int stood;
        int begun;
        int lost;
        final int[] patience = new int[MOST_BOATS];
        final int[] clock = new int[MOST_BOATS];
        final int[] term = new int[MOST_BOATS];
        final int[] vote = new int[MOST_BOATS];
        final int[] role = new int[MOST_BOATS];
        final int[] port = new int[MOST_BOATS];
        final boolean[] up = new boolean[MOST_BOATS];
        final Logs logs = new Logs();

        /** All as at first; a number beyond the rows is cut, so that no loop leaves them. */
        void begin(int number) {
            boats = Math.max(LEAST_BOATS, Math.min(number, MOST_BOATS));
            hour = 0;
            stood = 0;
            begun = 0;
            lost = 0;
            for (int boat = 0; boat < boats; boat++) {
                patience[boat] = LEAST_PATIENCE + boat;
                clock[boat] = patience[boat];
                term[boat] = 0;
                vote[boat] = NONE;
                role[boat] = FOLLOWS;
                port[boat] = 0;
                up[boat] = true;
                logs.clear(boat);
            }
        }

        void copyFrom(Fleet other) {
            boats = other.boats;
            hour = other.hour;
            stood = other.stood;
            begun = other.begun;
            lost = other.lost;
            for (int boat = 0; boat < MOST_BOATS; boat++) {
                patience[boat] = other.patience[boat];
                clock[boat] = other.clock[boat];
                term[boat] = other.term[boat];
                vote[boat] = other.vote[boat];
                role[boat] = other.role[boat];
                port[boat] = other.port[boat];
                up[boat] = other.up[boat];
            }
            logs.copyFrom(other.logs);
        }

        void raise(int boat) {
            up[boat] = true;
            role[boat] = FOLLOWS;
            clock[boat] = patience[boat];
            logs.known[boat] = 0;
        }

        // ---- hours

        void passHours(int hours) {
            for (int passed = 0; passed < hours; passed++) {
                runClocks();
                tellAll();
                commitAll();
                hour++;
            }
        }

        // These steps look at a boat as its turn comes: an earlier boat's turn may have changed it.
        void runClocks() {
            for (int boat = 0; boat < boats; boat++) {
                if (up[boat] && role[boat] != LEADS) {
                    clock[boat]--;
                    if (clock[boat] == 0) {
                        stand(boat);
                    }
                }
            }
        }

        void tellAll() {
            for (int boat = 0; boat < boats; boat++) {
                if (leadsNow(boat)) {
                    tellOthers(boat);
                }
            }
        }

        void commitAll() {
            for (int boat = 0; boat < boats; boat++) {
                if (leadsNow(boat)) {
                    commit(boat);
                }
            }
        }

        // A boat that hears of a greater term follows, and so asks no more.
        void stand(int boat) {
            stood++;
            term[boat]++;
            role[boat] = STANDS;
            vote[boat] = boat;
            clock[boat] = patience[boat];
            int votes = 1;
            for (int other = 0; other < boats && role[boat] == STANDS; other++) {
                if (other != boat && hear(boat, other) && givesVote(boat, other)) {
                    votes++;
                }
            }
            if (role[boat] == STANDS && isMoreThanHalf(votes)) {
                role[boat] = LEADS;
                begun++;
            }
        }

        boolean givesVote(int asker, int other) {
            if (!meetTerms(asker, other)) {
                return false;
            }
            boolean free = vote[other] == NONE || vote[other] == asker;
            if (!free || !logs.asNew(asker, other)) {
                return false;
            }
            vote[other] = asker;
            clock[other] = patience[other];
            return true;
        }

        // A boat that hears of a greater term follows, and so tells no more.
        void tellOthers(int teller) {
            for (int other = 0; other < boats && role[teller] == LEADS; other++) {
                if (other != teller && hear(teller, other)) {
                    tell(teller, other);
                }
            }
        }

        void tell(int teller, int other) {
            if (!meetTerms(teller, other)) {
                return;
            }
            role[other] = FOLLOWS;
            clock[other] = patience[other];
            if (logs.mend(teller, other)) {
                lost++;
            }
            logs.learnCommitted(teller, other);
        }

        /** Gives the smaller term's boat the greater term; answers whether the caller may go on. */
        boolean meetTerms(int caller, int other) {
            if (term[other] > term[caller]) {
                takeTerm(caller, term[other]);
                return false;
            }
            if (term[other] < term[caller]) {
                takeTerm(other, term[caller]);
            }
            return true;
        }

        void takeTerm(int boat, int greater) {
            term[boat] = greater;
            vote[boat] = NONE;
            role[boat] = FOLLOWS;
        }

        void commit(int leading) {
            for (int first = logs.length[leading]; first > logs.known[leading]; first--) {
                if (logs.termAt(leading, first - 1) == term[leading]
                        && isMoreThanHalf(hearersThatAgree(leading, first))) {
                    logs.known[leading] = first;
                    return;
                }
            }
        }

        int hearersThatAgree(int leading, int first) {
            int number = 0;
            for (int other = 0; other < boats; other++) {
                if (hear(leading, other) && logs.agreement(leading, other) >= first) {
                    number++;
                }
            }
            return number;
        }

        // ---- what there is

        boolean leadsNow(int boat) {
            return up[boat] && role[boat] == LEADS;
        }

        boolean hear(int a, int b) {
            return up[a] && up[b] && port[a] == port[b];
        }

        boolean isMoreThanHalf(int number) {
            return number > boats / 2;
        }

        /** Whether some boat leads and hears more than half, itself among them. */
        boolean isLed() {
            for (int boat = 0; boat < boats; boat++) {
                if (leadsNow(boat) && isMoreThanHalf(upIn(port[boat]))) {
                    return true;
                }
            }
            return false;
        }

        int upIn(int harbour) {
            int number = 0;
            for (int boat = 0; boat < boats; boat++) {
                if (up[boat] && port[boat] == harbour) {
                    number++;
                }
            }
            return number;
        }

        int newestIn(int harbour) {
            int newest = NONE;
            for (int boat = 0; boat < boats; boat++) {
                if (up[boat] && port[boat] == harbour
                        && (newest == NONE || !logs.asNew(newest, boat))) {
                    newest = boat;
                }
            }
            return newest;
        }

        int ofBoat(int boat, int what) {
            switch (what) {
                case 0: return term[boat];
                case 1: return vote[boat];
                case 2: return role[boat];
                case 3: return port[boat];
                case 4: return up[boat] ? 1 : 0;
                case 5: return patience[boat];
                case 6: return clock[boat];
                case 7: return logs.length[boat];
                case 8: return logs.known[boat];
                default: return logs.lastTerm(boat);
            }
        }

        int ofEntry(int boat, int place, int what) {
            switch (what) {
                case 0: return logs.termAt(boat, place);
                case 1: return logs.fishAt(boat, place);
                default: return boatsThatAgree(boat, place + 1);
            }
        }

        int boatsThatAgree(int boat, int first) {
            int number = 0;
            for (int other = 0; other < boats; other++) {
                if (logs.agreement(boat, other) >= first) {
                    number++;
                }
            }
            return number;
        }

        int ofFleet(int what) {
            switch (what) {
                case 0: return hour;
                case 1: return boats;
                case 2: return boatsUp();
                case 3: return boatsLeading();
                case 4: return greatestTerm();
                case 5: return stood;
                case 6: return begun;
                case 7: return lost;
                case 8: return mostKnown();
                default: return fewestKnown();
            }
        }

        int boatsUp() {
            int number = 0;
            for (int boat = 0; boat < boats; boat++) {
                if (up[boat]) {
                    number++;
                }
            }
            return number;
        }

        int boatsLeading() {
            int number = 0;
            for (int boat = 0; boat < boats; boat++) {
                if (leadsNow(boat)) {
                    number++;
                }
            }
            return number;
        }

        int greatestTerm() {
            int greatest = 0;
            for (int boat = 0; boat < boats; boat++) {
                greatest = Math.max(greatest, term[boat]);
            }
            return greatest;
        }

        int mostKnown() {
            int most = 0;
            for (int boat = 0; boat < boats; boat++) {
                most = Math.max(most, logs.known[boat]);
            }
            return most;
        }

        int fewestKnown() {
            int fewest = MOST_ENTRIES;
            for (int boat = 0; boat < boats; boat++) {
                fewest = Math.min(fewest, logs.known[boat]);
            }
            return fewest;
        }
    }
}
