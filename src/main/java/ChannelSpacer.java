/**
 * A desk for radio carriers whose mixing products must not fall on each other: products of the third and fifth order
 * with their levels, hits, spacing, least spans by an exact search, channels where one more carrier can be put in,
 * mixers, the diagnosis of bad mixers from listening tests, and plans that are read from a text.
 */
public final class ChannelSpacer {
    /** There is no such thing. */
    public static final int NONE = -1;

    private static final int CHANNELS = 64;
    private static final int MOST_CARRIERS = 10;
    private static final int MOST_LEVEL = 60;
    private static final int MOST_KINDS = 7;
    private static final int MOST_LOSS = 300;
    private static final int MOST_GUARD = 5;
    private static final int MOST_SPACING = 10;
    private static final int MOST_SPAN = 40;
    private static final int MOST_MARKS = 6;
    private static final int MOST_COUNTED_MARKS = 5;
    private static final int MOST_MIXERS = 5;
    private static final int MOST_TESTS = 16;
    private static final int MOST_TEXT = 120;
    private static final int MOST_BYTE = 127;
    private static final int MOST_SAVED = 4;
    private static final int SYNTAX_ERROR = -10;
    /** More than the 9,139 ways to put three marks between the ends of the widest ruler that is counted. */
    private static final int EVERY_RULER = 10_000;

    private final Desk desk;
    private final Desk draft;
    private final History history;
    private final Mix mix;
    private final CleanSet cleanSet;
    private final PlanText plan;
    /** The channels on which the strong products of each mixer fall, for the active carriers that were asked last. */
    private final long[] mixed;

    /** Creates a desk without carriers, mixers and tests. */
    public ChannelSpacer() {
        desk = new Desk();
        draft = new Desk();
        history = new History();
        mix = new Mix();
        cleanSet = new CleanSet();
        plan = new PlanText();
        mixed = new long[MOST_MIXERS];
    }

    // ---- carriers

    /** Adds a carrier and returns its number. Undoable. */
    public int addCarrier(int channel, int level) throws IllegalArgumentException, IllegalStateException {
        if (!isChannel(channel) || !isLevel(level) || desk.carrierOn(channel) != NONE) {
            throw new IllegalArgumentException("channel or level out of range, or channel taken");
        }
        needRoomForCarrier();
        history.push(desk);
        desk.putCarrier(channel, level);
        return desk.carriers - 1;
    }

    /** Gives a carrier a channel and a level, and returns its previous channel. Undoable. */
    public int moveCarrier(int carrier, int channel, int level)
            throws IndexOutOfBoundsException, IllegalArgumentException {
        needCarrier(carrier);
        if (!isChannel(channel) || !isLevel(level)) {
            throw new IllegalArgumentException("channel or level out of range");
        }
        int owner = desk.carrierOn(channel);
        if (owner != NONE && owner != carrier) {
            throw new IllegalArgumentException("another carrier has the channel");
        }
        history.push(desk);
        int before = desk.channelOf(carrier);
        desk.setCarrier(carrier, channel, level);
        return before;
    }

    /** Removes a carrier and returns the number of those that are left. Undoable. */
    public int removeCarrier(int carrier) throws IndexOutOfBoundsException {
        needCarrier(carrier);
        history.push(desk);
        desk.takeOut(carrier);
        return desk.carriers;
    }

    /** Adds a number to the channels of all carriers, and returns the number of carriers. Undoable. */
    public int shift(int by) throws IllegalArgumentException, IllegalStateException {
        if (by <= -CHANNELS || by >= CHANNELS) {
            throw new IllegalArgumentException("shift out of range");
        }
        for (int carrier = 0; carrier < desk.carriers; carrier++) {
            if (!isChannel(desk.channelOf(carrier) + by)) {
                throw new IllegalStateException("a channel would be out of the band");
            }
        }
        history.push(desk);
        desk.shiftAll(by);
        return desk.carriers;
    }

    /** Switches the kinds of products and sets the losses; returns the kinds that were on. Undoable. */
    public int setProducts(int kinds, int loss3, int loss5) throws IllegalArgumentException {
        if (!isWithin(kinds, 0, MOST_KINDS) || !isWithin(loss3, 0, MOST_LOSS) || !isWithin(loss5, 0, MOST_LOSS)) {
            throw new IllegalArgumentException("kinds or loss out of range");
        }
        history.push(desk);
        int before = desk.kinds;
        desk.kinds = kinds;
        desk.loss3 = loss3;
        desk.loss5 = loss5;
        desk.tests = 0;
        return before;
    }

    /** Sets the guard and the spacing, and returns the previous guard. Undoable. */
    public int setSpacing(int guard, int spacing) throws IllegalArgumentException {
        if (!isWithin(guard, 0, MOST_GUARD) || !isWithin(spacing, 1, MOST_SPACING)) {
            throw new IllegalArgumentException("guard or spacing out of range");
        }
        history.push(desk);
        int before = desk.guard;
        desk.guard = guard;
        desk.spacing = spacing;
        desk.tests = 0;
        return before;
    }

    /** Returns the number of carriers (0), mixers (1) or tests (2). */
    public int size(int what) throws IllegalArgumentException {
        switch (what) {
            case 0:
                return desk.carriers;
            case 1:
                return desk.mixers;
            case 2:
                return desk.tests;
            default:
                throw new IllegalArgumentException("what is out of range");
        }
    }

    /** Returns the level or the channel of a carrier. */
    public int carrier(int carrier, boolean level) throws IndexOutOfBoundsException {
        needCarrier(carrier);
        return level ? desk.levelOf(carrier) : desk.channelOf(carrier);
    }

    /** Returns the channels of all carriers as a bit set. */
    public long channels() {
        long set = 0;
        for (int carrier = 0; carrier < desk.carriers; carrier++) {
            set |= 1L << desk.channelOf(carrier);
        }
        return set;
    }

    // ---- products and hits

    /** Returns the number of strong products of all carriers. */
    public int products() {
        mix.gather(desk, desk.everyCarrier());
        return mix.size;
    }

    /** Returns something about a strong product: 0 its kind, 1 to 3 its carriers, 4 its channel, 5 its level. */
    public int product(int index, int what) throws IndexOutOfBoundsException, IllegalArgumentException {
        mix.gather(desk, desk.everyCarrier());
        if (index < 0 || index >= mix.size) {
            throw new IndexOutOfBoundsException("no such product");
        }
        if (!isWithin(what, 0, Mix.FACTS - 1)) {
            throw new IllegalArgumentException("what is out of range");
        }
        return mix.fact(index, what);
    }

    /** Returns the channels on which strong products of a set of carriers fall. */
    public long fallout(int carriers) throws IllegalArgumentException {
        needSetOfCarriers(carriers);
        return falloutOf(carriers);
    }

    /** Counts the pairs of a product and a carrier that it hits. */
    public int hits() {
        mix.gather(desk, desk.everyCarrier());
        int sum = 0;
        for (int carrier = 0; carrier < desk.carriers; carrier++) {
            sum += mix.countNear(desk.channelOf(carrier), desk.guard);
        }
        return sum;
    }

    /** Counts the hits on a carrier. */
    public int hitsOn(int carrier) throws IndexOutOfBoundsException {
        needCarrier(carrier);
        mix.gather(desk, desk.everyCarrier());
        return mix.countNear(desk.channelOf(carrier), desk.guard);
    }

    /** Tells whether the set of all carriers is clean. */
    public boolean isClean() {
        return standsClean(desk.everyCarrier());
    }

    /** Returns the smallest difference of the channels of two carriers; NONE with fewer than two. */
    public int closest() {
        int least = NONE;
        for (int one = 0; one < desk.carriers; one++) {
            for (int other = one + 1; other < desk.carriers; other++) {
                int gap = Math.abs(desk.channelOf(one) - desk.channelOf(other));
                if (least == NONE || gap < least) {
                    least = gap;
                }
            }
        }
        return least;
    }

    /** Returns the smallest set of carriers without which the others are clean. */
    public int removal() {
        int every = desk.everyCarrier();
        int best = every;
        for (int set = 0; set < every; set++) {
            // In ascending order a set counts only with fewer carriers, so of several the smallest bit set stays.
            if (Integer.bitCount(set) < Integer.bitCount(best) && standsClean(every & ~set)) {
                best = set;
            }
        }
        return best;
    }

    // ---- spans

    /** Returns the span of the best ruler; NONE if there is none. */
    public int leastSpan(int marks) throws IllegalArgumentException {
        needMarks(marks, MOST_MARKS);
        return findBestRuler(marks);
    }

    /** Returns the channels of the best ruler as a bit set; 0 if there is none. */
    public long bestRuler(int marks) throws IllegalArgumentException {
        needMarks(marks, MOST_MARKS);
        return findBestRuler(marks) == NONE ? 0 : cleanSet.channelSet();
    }

    /** Counts the rulers with a span. */
    public int rulers(int marks, int span) throws IllegalArgumentException {
        needMarks(marks, MOST_COUNTED_MARKS);
        if (!isWithin(span, 0, MOST_SPAN)) {
            throw new IllegalArgumentException("span out of range");
        }
        return countRulers(marks, span, EVERY_RULER);
    }

    /** Returns the channels where one more carrier with a level could be put in, such that all would be clean. */
    public long openings(int level) throws IllegalArgumentException {
        needLevel(level);
        return openChannels(level);
    }

    /** Puts in a carrier at the lowest channel of openings() and returns it; NONE if there is none. Undoable. */
    public int putIn(int level) throws IllegalArgumentException, IllegalStateException {
        needLevel(level);
        needRoomForCarrier();
        int channel = lowestOf(openChannels(level));
        if (channel != NONE) {
            history.push(desk);
            desk.putCarrier(channel, level);
        }
        return channel;
    }

    // ---- mixers and tests

    /** Adds a mixer and returns its number. Undoable. */
    public int addMixer(int carriers) throws IllegalArgumentException, IllegalStateException {
        needSetOfCarriers(carriers);
        if (desk.mixers >= MOST_MIXERS) {
            throw new IllegalStateException("no room for a mixer");
        }
        history.push(desk);
        desk.putMixer(carriers);
        return desk.mixers - 1;
    }

    /** Puts a carrier into a mixer, or takes it out; returns the carriers of the mixer then. Undoable. */
    public int setMember(int mixer, int carrier, boolean member) throws IndexOutOfBoundsException {
        needMixer(mixer);
        needCarrier(carrier);
        history.push(desk);
        int bit = 1 << carrier;
        int before = desk.membersOf(mixer);
        desk.setMembers(mixer, member ? (before | bit) : (before & ~bit));
        return desk.membersOf(mixer);
    }

    /** Returns the carriers of a mixer. */
    public int mixer(int mixer) throws IndexOutOfBoundsException {
        needMixer(mixer);
        return desk.membersOf(mixer);
    }

    /** Keeps a test and returns the number of diagnoses then. Undoable. */
    public int addTest(int active, int channel, boolean heard) throws IllegalArgumentException, IllegalStateException {
        needSetOfCarriers(active);
        needChannel(channel);
        if (desk.tests >= MOST_TESTS) {
            throw new IllegalStateException("no room for a test");
        }
        history.push(desk);
        mixActive(active);
        desk.putTest(active, channel, heard, mixersOn(channel));
        return countDiagnoses();
    }

    /** Returns something about a test: 0 its active carriers, 1 its channel, 2 whether a product was heard. */
    public int test(int test, int what) throws IndexOutOfBoundsException, IllegalArgumentException {
        if (test < 0 || test >= desk.tests) {
            throw new IndexOutOfBoundsException("no such test");
        }
        if (!isWithin(what, 0, 2)) {
            throw new IllegalArgumentException("what is out of range");
        }
        return desk.testFact(test, what);
    }

    /** Returns the mixers that would be heard in a test, if all mixers were bad. */
    public int heard(int active, int channel) throws IllegalArgumentException {
        needSetOfCarriers(active);
        needChannel(channel);
        mixActive(active);
        return mixersOn(channel);
    }

    /** Returns the number of diagnoses. */
    public int diagnoses() {
        return countDiagnoses();
    }

    /** Returns the diagnosis with the fewest mixers, of several the smallest bit set; NONE if there is none. */
    public int diagnosis() {
        int best = NONE;
        for (int bad = 0; bad <= desk.everyMixer(); bad++) {
            if (desk.fitsTests(bad) && (best == NONE || Integer.bitCount(bad) < Integer.bitCount(best))) {
                best = bad;
            }
        }
        return best;
    }

    /** Returns the mixers that are bad in all diagnoses, or in none; all mixers if there is no diagnosis. */
    public int certain(boolean bad) {
        int inAll = desk.everyMixer();
        int inNone = desk.everyMixer();
        for (int set = 0; set <= desk.everyMixer(); set++) {
            if (desk.fitsTests(set)) {
                inAll &= set;
                inNone &= ~set;
            }
        }
        return bad ? inAll : inNone;
    }

    /** Returns the channel of the test that tells most, with all carriers of a set active. */
    public int bestTest(int active) throws IllegalArgumentException {
        needSetOfCarriers(active);
        mixActive(active);
        int all = countDiagnoses();
        int best = 0;
        int bestRest = all;
        for (int channel = 0; channel < CHANNELS; channel++) {
            int heardRest = countHeard(mixersOn(channel));
            int rest = Math.max(heardRest, all - heardRest);
            if (rest < bestRest) {
                best = channel;
                bestRest = rest;
            }
        }
        return best;
    }

    // ---- text

    /** Appends a byte to the plan text and returns its new length. */
    public int append(int value) throws IllegalArgumentException, IllegalStateException {
        if (!isWithin(value, 0, MOST_BYTE)) {
            throw new IllegalArgumentException("no such byte");
        }
        if (plan.length >= MOST_TEXT) {
            throw new IllegalStateException("the text is full");
        }
        plan.put(value);
        return plan.length;
    }

    /** Empties the plan text and returns the length that it had. */
    public int clearText() {
        int before = plan.length;
        plan.length = 0;
        return before;
    }

    /** Makes carriers and mixers those of the text. Undoable, if there is no syntax error. */
    public int parse() {
        draft.takeFrom(desk);
        draft.empty();
        int answer = plan.readInto(draft);
        if (answer >= 0) {
            history.push(desk);
            desk.takeFrom(draft);
        }
        return answer;
    }

    // ---- state

    /** Restores the most recently saved state, and returns the number of those that remain. */
    public int undo() throws IllegalStateException {
        if (history.size <= 0) {
            throw new IllegalStateException("no saved state");
        }
        history.popInto(desk);
        return history.size;
    }

    /** Returns a hash of the state. */
    public long digest() {
        long h = 3067;
        h = 31 * h + plan.length;
        h = 31 * h + desk.kinds;
        h = 31 * h + desk.loss3;
        h = 31 * h + desk.loss5;
        h = 31 * h + desk.guard;
        h = 31 * h + desk.spacing;
        h = 31 * h + desk.carriers;
        for (int carrier = 0; carrier < desk.carriers; carrier++) {
            h = 31 * h + desk.channelOf(carrier);
            h = 31 * h + desk.levelOf(carrier);
        }
        h = 31 * h + products();
        h = 31 * h + hits();
        h = 31 * h + desk.mixers;
        for (int mixer = 0; mixer < desk.mixers; mixer++) {
            h = 31 * h + desk.membersOf(mixer);
        }
        h = 31 * h + desk.tests;
        for (int test = 0; test < desk.tests; test++) {
            for (int what = 0; what <= 2; what++) {
                h = 31 * h + desk.testFact(test, what);
            }
        }
        h = 31 * h + diagnoses();
        h = 31 * h + diagnosis();
        h = 31 * h + history.size;
        return h;
    }

    // ---- what the calls share

    private static boolean isWithin(int value, int low, int high) {
        return value >= low && value <= high;
    }

    private static boolean isChannel(int channel) {
        return channel >= 0 && channel < CHANNELS;
    }

    private static boolean isLevel(int level) {
        return level >= 0 && level <= MOST_LEVEL;
    }

    private static boolean isIn(int number, long set) {
        return ((set >>> number) & 1) != 0;
    }

    private static void needChannel(int channel) {
        if (!isChannel(channel)) {
            throw new IllegalArgumentException("channel out of range");
        }
    }

    private static void needLevel(int level) {
        if (!isLevel(level)) {
            throw new IllegalArgumentException("level out of range");
        }
    }

    private static void needMarks(int marks, int most) {
        if (!isWithin(marks, 1, most)) {
            throw new IllegalArgumentException("marks out of range");
        }
    }

    private void needRoomForCarrier() {
        if (desk.carriers >= MOST_CARRIERS) {
            throw new IllegalStateException("no room for a carrier");
        }
    }

    private void needCarrier(int carrier) {
        if (!desk.hasCarrier(carrier)) {
            throw new IndexOutOfBoundsException("no such carrier");
        }
    }

    private void needMixer(int mixer) {
        if (!desk.hasMixer(mixer)) {
            throw new IndexOutOfBoundsException("no such mixer");
        }
    }

    private void needSetOfCarriers(int set) {
        if (set < 0 || set > desk.everyCarrier()) {
            throw new IllegalArgumentException("no such set of carriers");
        }
    }

    /** The lowest channel of a set; NONE if it is empty. */
    private static int lowestOf(long set) {
        for (int channel = 0; channel < CHANNELS; channel++) {
            if (isIn(channel, set)) {
                return channel;
            }
        }
        return NONE;
    }

    private long falloutOf(int set) {
        mix.gather(desk, set);
        return mix.channelSet();
    }

    /** Tells whether a set of carriers is clean; if it is, the clean set holds it. */
    private boolean standsClean(int set) {
        cleanSet.start(desk);
        for (int carrier = 0; carrier < desk.carriers; carrier++) {
            if (isIn(carrier, set) && !cleanSet.join(desk.channelOf(carrier), desk.levelOf(carrier))) {
                return false;
            }
        }
        return true;
    }

    private long openChannels(int level) {
        if (!standsClean(desk.everyCarrier())) {
            return 0;
        }
        long open = 0;
        for (int channel = 0; channel < CHANNELS; channel++) {
            if (cleanSet.join(channel, level)) {
                open |= 1L << channel;
                cleanSet.leave();
            }
        }
        return open;
    }

    /** The span of the best ruler, which the clean set then holds; NONE if there is none. */
    private int findBestRuler(int marks) {
        for (int span = 0; span <= MOST_SPAN; span++) {
            if (countRulers(marks, span, 1) > 0) {
                return span;
            }
        }
        return NONE;
    }

    /** Counts the rulers with a span, until there are enough; the clean set then holds the last one. */
    private int countRulers(int marks, int span, int enough) {
        cleanSet.start(desk);
        cleanSet.join(0, MOST_LEVEL);
        if (marks == 1) {
            return span == 0 ? 1 : 0;
        }
        if (!cleanSet.join(span, MOST_LEVEL)) {
            return 0;
        }
        return countInner(cleanSet, marks - 2, desk.spacing, span, enough);
    }

    /**
     * Counts the ways to put the marks that are left, from a lowest channel on, below the span, until there are enough.
     * Ascending channels at each mark make the ways come in lexicographic order.
     */
    private static int countInner(CleanSet set, int left, int lowest, int span, int enough) {
        if (left <= 0) {
            return 1;
        }
        int found = 0;
        int highest = span - left * set.spacing;
        for (int mark = lowest; mark <= highest && found < enough; mark++) {
            if (set.join(mark, MOST_LEVEL)) {
                found += countInner(set, left - 1, mark + set.spacing, span, enough - found);
                if (found < enough) {
                    set.leave();
                }
            }
        }
        return found;
    }

    /** Notes for each mixer where its strong products fall, when only a set of carriers is active. */
    private void mixActive(int active) {
        for (int mixer = 0; mixer < mixed.length; mixer++) {
            mixed[mixer] = falloutOf(desk.membersOf(mixer) & active);
        }
    }

    /** The mixers of which a strong product falls on a channel, by what mixActive noted. */
    private int mixersOn(int channel) {
        int set = 0;
        for (int mixer = 0; mixer < mixed.length; mixer++) {
            if (isIn(channel, mixed[mixer])) {
                set |= 1 << mixer;
            }
        }
        return set;
    }

    private int countDiagnoses() {
        int count = 0;
        for (int bad = 0; bad <= desk.everyMixer(); bad++) {
            if (desk.fitsTests(bad)) {
                count++;
            }
        }
        return count;
    }

    /** Counts the diagnoses that have one of some mixers. */
    private int countHeard(int mixers) {
        int count = 0;
        for (int bad = 0; bad <= desk.everyMixer(); bad++) {
            if ((bad & mixers) != 0 && desk.fitsTests(bad)) {
                count++;
            }
        }
        return count;
    }

    /** All that can be undone: the settings, the carriers, the mixers and the tests. */
    private static final class Desk {
        private int kinds;
        private int loss3;
        private int loss5;
        private int guard;
        private int spacing;
        private int carriers;
        private final int[] channel;
        private final int[] level;
        private int mixers;
        private final int[] members;
        private int tests;
        private final int[] active;
        private final int[] listened;
        private final int[] outcome;
        /** For each test the mixers that it hears if they are bad; it stays true, as every change drops the tests. */
        private final int[] audible;

        Desk() {
            kinds = 3;
            loss3 = 0;
            loss5 = 100;
            guard = 0;
            spacing = 1;
            channel = new int[MOST_CARRIERS];
            level = new int[MOST_CARRIERS];
            members = new int[MOST_MIXERS];
            active = new int[MOST_TESTS];
            listened = new int[MOST_TESTS];
            outcome = new int[MOST_TESTS];
            audible = new int[MOST_TESTS];
        }

        void takeFrom(Desk other) {
            kinds = other.kinds;
            loss3 = other.loss3;
            loss5 = other.loss5;
            guard = other.guard;
            spacing = other.spacing;
            carriers = other.carriers;
            mixers = other.mixers;
            tests = other.tests;
            System.arraycopy(other.channel, 0, channel, 0, MOST_CARRIERS);
            System.arraycopy(other.level, 0, level, 0, MOST_CARRIERS);
            System.arraycopy(other.members, 0, members, 0, MOST_MIXERS);
            System.arraycopy(other.active, 0, active, 0, MOST_TESTS);
            System.arraycopy(other.listened, 0, listened, 0, MOST_TESTS);
            System.arraycopy(other.outcome, 0, outcome, 0, MOST_TESTS);
            System.arraycopy(other.audible, 0, audible, 0, MOST_TESTS);
        }

        /** Leaves nothing but the settings. */
        void empty() {
            carriers = 0;
            mixers = 0;
            tests = 0;
        }

        boolean hasCarrier(int carrier) {
            return carrier >= 0 && carrier < carriers && carrier < MOST_CARRIERS;
        }

        int everyCarrier() {
            return (1 << carriers) - 1;
        }

        int channelOf(int carrier) {
            return hasCarrier(carrier) ? channel[carrier] : NONE;
        }

        int levelOf(int carrier) {
            return hasCarrier(carrier) ? level[carrier] : NONE;
        }

        /** The carrier that has a channel, or NONE. */
        int carrierOn(int wanted) {
            for (int carrier = 0; carrier < carriers; carrier++) {
                if (channelOf(carrier) == wanted) {
                    return carrier;
                }
            }
            return NONE;
        }

        void putCarrier(int itsChannel, int itsLevel) {
            if (carriers < MOST_CARRIERS) {
                carriers++;
                setCarrier(carriers - 1, itsChannel, itsLevel);
            }
        }

        void setCarrier(int carrier, int itsChannel, int itsLevel) {
            if (hasCarrier(carrier)) {
                channel[carrier] = itsChannel;
                level[carrier] = itsLevel;
            }
            tests = 0;
        }

        /** Removes a carrier, and lets those behind it take the number before theirs, in the mixers too. */
        void takeOut(int carrier) {
            if (!hasCarrier(carrier)) {
                return;
            }
            for (int behind = carrier + 1; behind < carriers; behind++) {
                setCarrier(behind - 1, channelOf(behind), levelOf(behind));
            }
            carriers--;
            int below = (1 << carrier) - 1;
            for (int mixer = 0; mixer < mixers; mixer++) {
                int set = membersOf(mixer);
                setMembers(mixer, (set & below) | ((set >> 1) & ~below));
            }
            tests = 0;
        }

        void shiftAll(int by) {
            for (int carrier = 0; carrier < carriers; carrier++) {
                setCarrier(carrier, channelOf(carrier) + by, levelOf(carrier));
            }
            tests = 0;
        }

        boolean hasMixer(int mixer) {
            return mixer >= 0 && mixer < mixers && mixer < MOST_MIXERS;
        }

        int everyMixer() {
            return (1 << mixers) - 1;
        }

        /** The carriers of a mixer; none if there is no such mixer. */
        int membersOf(int mixer) {
            return hasMixer(mixer) ? members[mixer] : 0;
        }

        void putMixer(int itsCarriers) {
            if (mixers < MOST_MIXERS) {
                mixers++;
                setMembers(mixers - 1, itsCarriers);
            }
        }

        void setMembers(int mixer, int itsCarriers) {
            if (hasMixer(mixer)) {
                members[mixer] = itsCarriers;
            }
            tests = 0;
        }

        boolean hasTest(int test) {
            return test >= 0 && test < tests && test < MOST_TESTS;
        }

        void putTest(int itsActive, int itsChannel, boolean wasHeard, int itsAudible) {
            if (tests >= 0 && tests < MOST_TESTS) {
                active[tests] = itsActive;
                listened[tests] = itsChannel;
                outcome[tests] = wasHeard ? 1 : 0;
                audible[tests] = itsAudible;
                tests++;
            }
        }

        int testFact(int test, int what) {
            if (!hasTest(test)) {
                return NONE;
            }
            switch (what) {
                case 0:
                    return active[test];
                case 1:
                    return listened[test];
                default:
                    return outcome[test];
            }
        }

        /** Tells whether a set of bad mixers fits all tests. */
        boolean fitsTests(int bad) {
            for (int test = 0; test < tests && test < MOST_TESTS; test++) {
                boolean wouldHear = (bad & audible[test]) != 0;
                if (wouldHear != (outcome[test] == 1)) {
                    return false;
                }
            }
            return true;
        }
    }

    /** The saved states: a ring, in which the newest one takes the place of the oldest when it is full. */
    private static final class History {
        private final Desk[] saved;
        private int newest;
        private int size;

        History() {
            saved = new Desk[MOST_SAVED];
            for (int i = 0; i < MOST_SAVED; i++) {
                saved[i] = new Desk();
            }
        }

        void push(Desk desk) {
            newest = newest + 1 < MOST_SAVED ? newest + 1 : 0;
            Desk place = deskAt(newest);
            if (place != null) {
                place.takeFrom(desk);
            }
            size = Math.min(size + 1, MOST_SAVED);
        }

        void popInto(Desk desk) {
            Desk place = deskAt(newest);
            if (place != null) {
                desk.takeFrom(place);
            }
            newest = newest > 0 ? newest - 1 : MOST_SAVED - 1;
            size = Math.max(size - 1, 0);
        }

        private Desk deskAt(int index) {
            return index >= 0 && index < MOST_SAVED ? saved[index] : null;
        }
    }

    /** The strong products of a set of carriers, in their order. */
    private static final class Mix {
        private static final int FACTS = 6;
        private static final int CHANNEL = 4;
        /** What ten carriers make at most: 90 of the kind 0, 360 of the kind 1 and 90 of the kind 2. */
        private static final int MOST_PRODUCTS = 540;

        private final int[] facts;
        private int size;

        Mix() {
            facts = new int[FACTS * MOST_PRODUCTS];
        }

        void gather(Desk desk, int set) {
            size = 0;
            if ((desk.kinds & 1) != 0) {
                gatherPairs(desk, set, 0);
            }
            if ((desk.kinds & 2) != 0) {
                gatherTriples(desk, set);
            }
            if ((desk.kinds & 4) != 0) {
                gatherPairs(desk, set, 2);
            }
        }

        /** The kinds 0 and 2: the first carrier counts two or three times, the second one once or twice. */
        private void gatherPairs(Desk desk, int set, int kind) {
            int more = kind == 0 ? 2 : 3;
            int less = more - 1;
            int loss = kind == 0 ? desk.loss3 : desk.loss5;
            for (int a = 0; a < desk.carriers; a++) {
                for (int b = 0; b < desk.carriers; b++) {
                    if (a != b && isIn(a, set) && isIn(b, set)) {
                        int channel = more * desk.channelOf(a) - less * desk.channelOf(b);
                        int level = more * desk.levelOf(a) + less * desk.levelOf(b) - loss;
                        put(kind, a, b, NONE, channel, level);
                    }
                }
            }
        }

        private void gatherTriples(Desk desk, int set) {
            for (int a = 0; a < desk.carriers; a++) {
                for (int b = a + 1; b < desk.carriers; b++) {
                    for (int c = 0; c < desk.carriers; c++) {
                        if (c != a && c != b && isIn(a, set) && isIn(b, set) && isIn(c, set)) {
                            int channel = desk.channelOf(a) + desk.channelOf(b) - desk.channelOf(c);
                            int level = desk.levelOf(a) + desk.levelOf(b) + desk.levelOf(c) - desk.loss3;
                            put(1, a, b, c, channel, level);
                        }
                    }
                }
            }
        }

        /** Keeps a product if it is in the band and its level is high enough. */
        private void put(int kind, int a, int b, int c, int channel, int level) {
            if (!isChannel(channel) || level < 0 || size < 0 || size >= MOST_PRODUCTS) {
                return;
            }
            int at = FACTS * size;
            facts[at] = kind;
            facts[at + 1] = a;
            facts[at + 2] = b;
            facts[at + 3] = c;
            facts[at + CHANNEL] = channel;
            facts[at + 5] = level;
            size++;
        }

        int fact(int index, int what) {
            if (index < 0 || index >= size || index >= MOST_PRODUCTS || what < 0 || what >= FACTS) {
                return NONE;
            }
            return facts[FACTS * index + what];
        }

        long channelSet() {
            long set = 0;
            for (int index = 0; index < size; index++) {
                set |= 1L << fact(index, CHANNEL);
            }
            return set;
        }

        /** Counts the products that a channel is no farther from than the guard. */
        int countNear(int channel, int guard) {
            int count = 0;
            for (int index = 0; index < size; index++) {
                if (Math.abs(fact(index, CHANNEL) - channel) <= guard) {
                    count++;
                }
            }
            return count;
        }
    }

    /**
     * A clean set of carriers that grows and shrinks by one carrier at a time. As every part of a clean set is clean,
     * only what the new carrier brings has to be looked at.
     */
    private static final class CleanSet {
        /** One more than a desk has, for the openings. */
        private static final int MOST = MOST_CARRIERS + 1;

        private final int[] channel;
        private final int[] level;
        /** For each number of carriers, the channels that the first of them guard. */
        private final long[] guarded;
        /** For each number of carriers, the channels on which strong products of the first of them fall. */
        private final long[] fallen;
        private int size;
        private int kinds;
        private int loss3;
        private int loss5;
        private int guard;
        private int spacing;

        CleanSet() {
            channel = new int[MOST];
            level = new int[MOST];
            guarded = new long[MOST + 1];
            fallen = new long[MOST + 1];
        }

        /** Empties the set and takes the settings of a desk. */
        void start(Desk desk) {
            size = 0;
            kinds = desk.kinds;
            loss3 = desk.loss3;
            loss5 = desk.loss5;
            guard = desk.guard;
            spacing = desk.spacing;
        }

        /** Takes in a carrier if the set stays clean with it, and tells whether it did. */
        boolean join(int newChannel, int newLevel) {
            if (size < 0 || size >= MOST || isCrowded(newChannel)) {
                return false;
            }
            long nowGuarded = guarded[size] | guardedBy(newChannel);
            long nowFallen = fallen[size] | pairsWith(newChannel, newLevel) | triplesWith(newChannel, newLevel);
            if ((nowGuarded & nowFallen) != 0) {
                return false;
            }
            channel[size] = newChannel;
            level[size] = newLevel;
            size++;
            guarded[size] = nowGuarded;
            fallen[size] = nowFallen;
            return true;
        }

        /** Drops the carrier that was taken in last. */
        void leave() {
            size = Math.max(size - 1, 0);
        }

        long channelSet() {
            long set = 0;
            for (int i = 0; i < size && i < MOST; i++) {
                set |= 1L << channel[i];
            }
            return set;
        }

        private boolean isCrowded(int newChannel) {
            for (int i = 0; i < size && i < MOST; i++) {
                if (Math.abs(channel[i] - newChannel) < spacing) {
                    return true;
                }
            }
            return false;
        }

        private long guardedBy(int newChannel) {
            long run = (1L << (2 * guard + 1)) - 1;
            int lowest = newChannel - guard;
            return lowest >= 0 ? run << lowest : run >>> -lowest;
        }

        /** The channels on which strong products of the kinds 0 and 2 fall in which a new carrier x takes part. */
        private long pairsWith(int x, int xLevel) {
            long set = 0;
            for (int i = 0; i < size && i < MOST; i++) {
                int a = channel[i];
                int aLevel = level[i];
                if ((kinds & 1) != 0) {
                    set |= bitOf(2 * x - a, 2 * xLevel + aLevel - loss3);
                    set |= bitOf(2 * a - x, 2 * aLevel + xLevel - loss3);
                }
                if ((kinds & 4) != 0) {
                    set |= bitOf(3 * x - 2 * a, 3 * xLevel + 2 * aLevel - loss5);
                    set |= bitOf(3 * a - 2 * x, 3 * aLevel + 2 * xLevel - loss5);
                }
            }
            return set;
        }

        /** The channels on which strong products of the kind 1 fall in which a new carrier x takes part. */
        private long triplesWith(int x, int xLevel) {
            long set = 0;
            for (int i = 0; i < size && i < MOST && (kinds & 2) != 0; i++) {
                int a = channel[i];
                for (int j = 0; j < i; j++) {
                    int b = channel[j];
                    int sum = xLevel + level[i] + level[j] - loss3;
                    set |= bitOf(x + a - b, sum) | bitOf(x + b - a, sum) | bitOf(a + b - x, sum);
                }
            }
            return set;
        }

        private static long bitOf(int itsChannel, int itsLevel) {
            return isChannel(itsChannel) && itsLevel >= 0 ? 1L << itsChannel : 0;
        }
    }

    /** The plan text, and what reads it. */
    private static final class PlanText {
        private final int[] bytes;
        private int length;
        private int at;
        private int numberAt;
        private int error;

        PlanText() {
            bytes = new int[MOST_TEXT];
        }

        void put(int value) {
            if (length >= 0 && length < MOST_TEXT) {
                bytes[length] = value;
                length++;
            }
        }

        /** Adds the items of the text to a desk; returns their number, or -10 minus the syntax error position. */
        int readInto(Desk desk) {
            at = 0;
            error = NONE;
            int items = 0;
            while (items < MOST_TEXT && at < length && error == NONE) {
                readItem(desk);
                items++;
            }
            return error == NONE ? items : SYNTAX_ERROR - error;
        }

        private void readItem(Desk desk) {
            int first = byteAt(at);
            if (first == 'c' && desk.carriers < MOST_CARRIERS) {
                at++;
                readCarrier(desk);
            } else if (first == 'm' && desk.mixers < MOST_MIXERS) {
                at++;
                readMixer(desk);
            } else {
                error = at;
            }
        }

        private void readCarrier(Desk desk) {
            int channel = readNumber();
            refuseNumberIf(!isChannel(channel) || desk.carrierOn(channel) != NONE);
            expect(',');
            int level = readNumber();
            refuseNumberIf(!isLevel(level));
            expect(';');
            if (error == NONE) {
                desk.putCarrier(channel, level);
            }
        }

        private void readMixer(Desk desk) {
            int set = readMember(desk, 0);
            for (int more = 0; more < MOST_TEXT && error == NONE && byteAt(at) == ','; more++) {
                at++;
                set = readMember(desk, set);
            }
            expect(';');
            if (error == NONE) {
                desk.putMixer(set);
            }
        }

        /** Returns a set of carriers with the one that is read. */
        private int readMember(Desk desk, int set) {
            int carrier = readNumber();
            boolean isKnown = desk.hasCarrier(carrier);
            refuseNumberIf(!isKnown || isIn(carrier, set));
            return isKnown ? set | (1 << carrier) : set;
        }

        /** Reads one or two digits; a third one is an error. */
        private int readNumber() {
            if (error != NONE) {
                return 0;
            }
            numberAt = at;
            int value = 0;
            for (int digits = 0; digits < 2 && isDigit(byteAt(at)); digits++) {
                value = 10 * value + byteAt(at) - '0';
                at++;
            }
            if (at == numberAt || isDigit(byteAt(at))) {
                error = at;
            }
            return value;
        }

        private void refuseNumberIf(boolean wrong) {
            if (wrong && error == NONE) {
                error = numberAt;
            }
        }

        private void expect(int wanted) {
            if (error != NONE) {
                return;
            }
            if (byteAt(at) == wanted) {
                at++;
            } else {
                error = at;
            }
        }

        private static boolean isDigit(int value) {
            return value >= '0' && value <= '9';
        }

        /** The byte at an index, NONE behind the end. */
        private int byteAt(int index) {
            return index >= 0 && index < length && index < MOST_TEXT ? bytes[index] : NONE;
        }
    }
}
