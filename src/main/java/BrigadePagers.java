import java.util.Arrays;
import java.util.NoSuchElementException;

/** Call-outs of a volunteer fire brigade. */
public final class BrigadePagers {
    public static final int NONE = -1;

    private static final int TEXT_ROOM = 1200;
    private static final int PIECE = 20;
    private static final int NAME_ROOM = 8;
    private static final int DIGITS = 5;

    private static final int PERSONS = 12;
    private static final int TRUSTS = 24;
    private static final int PAGERS = 6;
    private static final int ENGINES = 5;
    private static final int KINDS = 6;
    private static final int PLACES = 8;
    private static final int POSTS = 6;
    private static final int HAND_ONS = 3;
    private static final int CALLS = 16;
    private static final int CHANGES = 10;
    private static final int SLOTS = 2;

    private static final int HOUR = 60;
    private static final int DAY = 1440;
    private static final int LAST_TIME = 20160;
    private static final int MOST_HOURS = 48;
    private static final int MOST_TRUST = 9;
    private static final int ENGINE_COST = 50;

    /** What a post asks for is one bit of a set; everybody has the last one, which the post "any" asks for. */
    private static final int SKILLS = 4;
    private static final int ANY = 1 << SKILLS;
    private static final int SKILL_SETS = 2 * ANY;

    private static final int PERSON = 0;
    private static final int PAGER = 1;
    private static final int ENGINE = 2;
    private static final int KIND = 3;
    private static final int CALL = 4;

    private final byte[] text = new byte[TEXT_ROOM];
    private int textLength;
    private final Reader reader = new Reader(text);
    private Plan plan = new Plan();
    private Plan sparePlan = new Plan();
    private final State state = new State(plan);
    /** What would happen is tried out on this one. */
    private final State draft = new State(plan);
    private final Muster muster = new Muster(state);
    private final History history = new History(plan);

    public BrigadePagers() {
        plan.night.set(22, 6, 5, 240);
    }

    // ---- the text

    public int append(int a, int b, int c, int d, int e) throws IllegalStateException {
        if (textLength + PIECE > TEXT_ROOM) {
            throw new IllegalStateException("the text buffer has no room for 20 bytes more");
        }
        putFourBytes(a);
        putFourBytes(b);
        putFourBytes(c);
        putFourBytes(d);
        putFourBytes(e);
        return textLength;
    }

    private void putFourBytes(int word) {
        for (int shift = 24; shift >= 0; shift -= 8) {
            if (textLength < TEXT_ROOM) {
                text[textLength] = (byte) (word >> shift);
                textLength++;
            }
        }
    }

    public int truncate(int length) throws IndexOutOfBoundsException {
        if (length < 0 || length > textLength) {
            throw new IndexOutOfBoundsException("no such length");
        }
        textLength = length;
        return textLength;
    }

    public int load() throws IllegalArgumentException {
        boolean isRead = reader.reads(textLength, sparePlan);
        textLength = 0;
        if (!isRead) {
            throw new IllegalArgumentException("the text has an error");
        }
        Plan before = plan;
        plan = sparePlan;
        sparePlan = before;
        state.begin(plan);
        history.clear();
        return plan.personCount;
    }

    public int errorCode() {
        return reader.error;
    }

    public int errorPosition() {
        return reader.errorAt;
    }

    public int find(int sort) throws IllegalArgumentException, NoSuchElementException {
        long name = reader.wholeAsName(textLength);
        textLength = 0;
        if (sort < PERSON || sort > KIND) {
            throw new IllegalArgumentException("no such sort");
        }
        int found = name == NONE ? NONE : plan.numberOf(sort, name);
        if (found == NONE) {
            throw new NoSuchElementException("nothing has this name");
        }
        return found;
    }

    public int count(int sort) throws IllegalArgumentException {
        if (sort < PERSON || sort > CALL) {
            throw new IllegalArgumentException("no such sort");
        }
        return sort == CALL ? state.log.size : plan.sizeOf(sort);
    }

    // ---- time, persons and trust

    public int time() {
        return state.time;
    }

    public int nightMinutes(int from, int to) throws IllegalArgumentException {
        if (from < 0 || to > LAST_TIME || from > to) {
            throw new IllegalArgumentException("no such span of time");
        }
        return plan.night.minutesIn(from, to);
    }

    public int outUntil(int person) throws IndexOutOfBoundsException {
        needPerson(person);
        return state.isOut(person) ? state.outUntil[person] : NONE;
    }

    public int lostSleep(int person) throws IndexOutOfBoundsException {
        needPerson(person);
        return state.lost[person];
    }

    public int lostSleepAfter(int person, int minutes) throws IndexOutOfBoundsException, IllegalArgumentException {
        needPerson(person);
        if (minutes < 0 || minutes > DAY) {
            throw new IllegalArgumentException("minutes are 0 to 1440");
        }
        return state.lostAt(person, state.time + minutes);
    }

    public int restedAt(int person) throws IndexOutOfBoundsException, NoSuchElementException {
        needPerson(person);
        int rested = state.firstRested(person);
        if (rested > LAST_TIME) {
            throw new NoSuchElementException("the person stays tired");
        }
        return rested;
    }

    public int arrival(int person) throws IndexOutOfBoundsException {
        needPerson(person);
        return state.arrivalOf(person);
    }

    public int pay(int person) throws IndexOutOfBoundsException {
        needPerson(person);
        return state.paid[person];
    }

    public int trust(int person, int other) throws IndexOutOfBoundsException, IllegalArgumentException {
        needTwoPersons(person, other);
        return state.trust[pair(person, other)];
    }

    public int trustPath(int person, int other) throws IndexOutOfBoundsException, IllegalArgumentException {
        needTwoPersons(person, other);
        return state.bestRow(person, other);
    }

    // ---- pagers

    public int chain(int pager, int index) throws IndexOutOfBoundsException {
        needPager(pager);
        if (index < 0 || index > state.handOns[pager]) {
            throw new IndexOutOfBoundsException("the chain has no such person");
        }
        return state.chainPerson(pager, index);
    }

    public int handOns(int pager) throws IndexOutOfBoundsException {
        needPager(pager);
        return state.handOns[pager];
    }

    public int holdingEnd(int pager) throws IndexOutOfBoundsException {
        needPager(pager);
        return state.endAt(pager, state.time);
    }

    public int rotation(int pager, int place) throws IndexOutOfBoundsException {
        needPager(pager);
        needPlace(pager, place);
        return state.rotation[pager * PLACES + place];
    }

    public int holderAt(int pager, int time) throws IndexOutOfBoundsException, IllegalArgumentException {
        needPager(pager);
        if (time < state.time || time > LAST_TIME) {
            throw new IllegalArgumentException("time is past, or too late");
        }
        return state.holderThen(pager, time);
    }

    public int dutyMinutes(int person, int minutes) throws IndexOutOfBoundsException, IllegalArgumentException {
        needPerson(person);
        if (minutes < 1 || minutes > DAY) {
            throw new IllegalArgumentException("minutes are 1 to 1440");
        }
        return state.dutyUpTo(person, state.time + minutes);
    }

    public int whyNotHandOn(int pager, int person, int until) throws IndexOutOfBoundsException {
        needPager(pager);
        needPerson(person);
        return state.reasonAgainst(pager, person, until);
    }

    public int steps(int pager, int person) throws IndexOutOfBoundsException, NoSuchElementException {
        needPager(pager);
        needPerson(person);
        if (state.holderThen(pager, state.time) == person) {
            return 0;
        }
        // Every hand-on before it only makes the chain longer, so what is possible after some is possible at once.
        if (state.reasonAgainst(pager, person, state.endAt(pager, state.time)) != 0) {
            throw new NoSuchElementException("the pager cannot come to the person");
        }
        return 1;
    }

    // ---- engines and calls

    public int returnsAt(int engine) throws IndexOutOfBoundsException {
        needEngine(engine);
        return state.isEngineOut(engine) ? state.returns[engine] : NONE;
    }

    public int cost(int call) throws IndexOutOfBoundsException {
        needCall(call);
        return state.log.costs[call];
    }

    public boolean isAnswered(int call) throws IndexOutOfBoundsException {
        needCall(call);
        return has(state.log.answered, call);
    }

    public int came(int call) throws IndexOutOfBoundsException {
        needCall(call);
        return state.log.comers[call];
    }

    public int left(int call) throws IndexOutOfBoundsException {
        needCall(call);
        return state.log.leavers[call];
    }

    public int engine(int call, int index) throws IndexOutOfBoundsException {
        needLeaver(call, index);
        return state.log.engines[call * ENGINES + index];
    }

    public int leftAt(int call, int index) throws IndexOutOfBoundsException {
        needLeaver(call, index);
        return state.log.leaveTimes[call * ENGINES + index];
    }

    public int member(int call, int index, int member) throws IndexOutOfBoundsException {
        needLeaver(call, index);
        int found = nthOf(state.log.crews[call * ENGINES + index], member);
        if (found == NONE) {
            throw new IndexOutOfBoundsException("the crew has no such member");
        }
        return found;
    }

    public int totalCost() {
        int sum = 0;
        for (int call = 0; call < state.log.size; call++) {
            sum += state.log.costs[call];
        }
        return sum;
    }

    // ---- what would happen if a call came now; nothing changes

    public int whyAbsent(int kind, int person) throws IndexOutOfBoundsException {
        needKind(kind);
        needPerson(person);
        muster.foresee(state, plan.kinds[kind]);
        return muster.absence[person];
    }

    public int whyStays(int kind, int index) throws IndexOutOfBoundsException {
        needKindEngine(kind, index);
        muster.foresee(state, plan.kinds[kind]);
        return muster.stay[index];
    }

    public int departure(int kind, int index) throws IndexOutOfBoundsException, IllegalStateException {
        needKindEngine(kind, index);
        muster.foresee(state, plan.kinds[kind]);
        needLeaving(index);
        return muster.departs[index];
    }

    public int mans(int kind, int index, int post) throws IndexOutOfBoundsException, IllegalStateException {
        needKindEngine(kind, index);
        Engine engine = plan.engines[plan.kinds[kind].engineAt[index]];
        if (post < 0 || post >= engine.posts) {
            throw new IndexOutOfBoundsException("no such post");
        }
        muster.foresee(state, plan.kinds[kind]);
        needLeaving(index);
        return muster.personAt(engine, muster.crews[index], post);
    }

    public int manned(int kind, int index) throws IndexOutOfBoundsException {
        needKindEngine(kind, index);
        muster.foresee(state, plan.kinds[kind]);
        return muster.mannable[index];
    }

    public boolean wouldAnswer(int kind) throws IndexOutOfBoundsException {
        needKind(kind);
        return muster.foresee(state, plan.kinds[kind]);
    }

    public int mostEngines(int kind) throws IndexOutOfBoundsException {
        needKind(kind);
        muster.foresee(state, plan.kinds[kind]);
        return muster.mostTogether(plan.kinds[kind]);
    }

    public int hoursUntilAnswered(int kind) throws IndexOutOfBoundsException, NoSuchElementException {
        needKind(kind);
        draft.copyFrom(state);
        for (int hours = 0; hours <= MOST_HOURS; hours++) {
            if (muster.foresee(draft, plan.kinds[kind])) {
                return hours;
            }
            draft.advance(HOUR);
        }
        throw new NoSuchElementException("the call would not be answered within 48 hours");
    }

    public int helpfulPager(int kind) throws IndexOutOfBoundsException, IllegalStateException, NoSuchElementException {
        return helpfulHandOn(kind) / PERSONS;
    }

    public int helpfulPerson(int kind) throws IndexOutOfBoundsException, IllegalStateException, NoSuchElementException {
        return helpfulHandOn(kind) % PERSONS;
    }

    /** Returns pager * PERSONS + person. */
    private int helpfulHandOn(int kind) {
        needKind(kind);
        if (muster.foresee(state, plan.kinds[kind])) {
            throw new IllegalStateException("the call would be answered without a hand-on");
        }
        draft.copyFrom(state);
        for (int pager = 0; pager < plan.pagerCount; pager++) {
            int until = draft.endAt(pager, draft.time);
            for (int person = 0; person < plan.personCount; person++) {
                if (draft.reasonAgainst(pager, person, until) == 0) {
                    draft.addHandOn(pager, person, until);
                    boolean isHelpful = muster.foresee(draft, plan.kinds[kind]);
                    draft.dropHandOn(pager);
                    if (isHelpful) {
                        return pager * PERSONS + person;
                    }
                }
            }
        }
        throw new NoSuchElementException("no hand-on helps");
    }

    // ---- changes

    public int call(int kind) throws IndexOutOfBoundsException, IllegalStateException {
        needKind(kind);
        if (state.log.size >= CALLS) {
            throw new IllegalStateException("there are 16 calls already");
        }
        history.keep(state);
        muster.foresee(state, plan.kinds[kind]);
        return muster.carryOut(plan.kinds[kind]);
    }

    public int handOn(int pager, int person, int until) throws IndexOutOfBoundsException, IllegalStateException {
        needPager(pager);
        needPerson(person);
        if (state.reasonAgainst(pager, person, until) != 0) {
            throw new IllegalStateException("there is a reason against the hand-on");
        }
        history.keep(state);
        state.addHandOn(pager, person, until);
        return state.handOns[pager];
    }

    public int giveBack(int pager) throws IndexOutOfBoundsException, IllegalStateException {
        needPager(pager);
        if (state.handOns[pager] == 0) {
            throw new IllegalStateException("the pager has no hand-on");
        }
        history.keep(state);
        state.dropHandOn(pager);
        return state.holderThen(pager, state.time);
    }

    public int pass(int minutes) throws IllegalArgumentException, IllegalStateException {
        if (minutes < 1 || minutes > DAY) {
            throw new IllegalArgumentException("minutes are 1 to 1440");
        }
        if (state.time + minutes > LAST_TIME) {
            throw new IllegalStateException("the time would be too late");
        }
        history.keep(state);
        return state.advance(minutes);
    }

    public int swapPlaces(int pager, int place, int other)
            throws IndexOutOfBoundsException, IllegalArgumentException, IllegalStateException {
        needPager(pager);
        needPlace(pager, place);
        needPlace(pager, other);
        if (place == other) {
            throw new IllegalArgumentException("they are the same place");
        }
        int present = state.placeAt(pager, state.time);
        if (place == present || other == present) {
            throw new IllegalStateException("the present place stays");
        }
        history.keep(state);
        int first = pager * PLACES + place;
        int second = pager * PLACES + other;
        int person = state.rotation[first];
        state.rotation[first] = state.rotation[second];
        state.rotation[second] = person;
        return state.rotation[first];
    }

    public int excuse(int person, boolean isExcused) throws IndexOutOfBoundsException {
        needPerson(person);
        history.keep(state);
        state.excused = isExcused ? state.excused | 1 << person : state.excused & ~(1 << person);
        return Integer.bitCount(state.excused);
    }

    public int setService(int engine, boolean isInService) throws IndexOutOfBoundsException, IllegalStateException {
        needEngine(engine);
        if (state.isEngineOut(engine)) {
            throw new IllegalStateException("the engine is out");
        }
        history.keep(state);
        state.service = isInService ? state.service | 1 << engine : state.service & ~(1 << engine);
        return Integer.bitCount(state.service);
    }

    public int setTrust(int person, int other, int level) throws IndexOutOfBoundsException, IllegalArgumentException {
        needTwoPersons(person, other);
        if (level < 0 || level > MOST_TRUST) {
            throw new IllegalArgumentException("a trust is 0 to 9");
        }
        history.keep(state);
        int before = state.trust[pair(person, other)];
        state.trust[pair(person, other)] = level;
        return before;
    }

    public int undo() throws IllegalStateException {
        if (history.keptCount == 0) {
            throw new IllegalStateException("there is no change to undo");
        }
        history.takeBack(state);
        return history.keptCount;
    }

    public void save(int slot) throws IndexOutOfBoundsException {
        needSlot(slot);
        history.slots[slot].copyFrom(state);
        history.isSlotFilled[slot] = true;
    }

    public void restore(int slot) throws IndexOutOfBoundsException, NoSuchElementException {
        needSlot(slot);
        if (!history.isSlotFilled[slot]) {
            throw new NoSuchElementException("nothing is saved in the slot");
        }
        state.copyFrom(history.slots[slot]);
        history.keptCount = 0;
    }

    // ---- what the arguments must be

    private void needPerson(int person) {
        if (person < 0 || person >= plan.personCount) {
            throw new IndexOutOfBoundsException("no such person");
        }
    }

    private void needTwoPersons(int person, int other) {
        needPerson(person);
        needPerson(other);
        if (person == other) {
            throw new IllegalArgumentException("they are the same person");
        }
    }

    private void needPager(int pager) {
        if (pager < 0 || pager >= plan.pagerCount) {
            throw new IndexOutOfBoundsException("no such pager");
        }
    }

    private void needPlace(int pager, int place) {
        if (place < 0 || place >= plan.pagers[pager].places) {
            throw new IndexOutOfBoundsException("no such place");
        }
    }

    private void needEngine(int engine) {
        if (engine < 0 || engine >= plan.engineCount) {
            throw new IndexOutOfBoundsException("no such engine");
        }
    }

    private void needKind(int kind) {
        if (kind < 0 || kind >= plan.kindCount) {
            throw new IndexOutOfBoundsException("no such kind");
        }
    }

    private void needKindEngine(int kind, int index) {
        needKind(kind);
        if (index < 0 || index >= plan.kinds[kind].engines) {
            throw new IndexOutOfBoundsException("the kind has no such engine");
        }
    }

    /** Asks what the muster foresaw last. */
    private void needLeaving(int index) {
        if (muster.stay[index] != 0) {
            throw new IllegalStateException("the engine would not leave");
        }
    }

    private void needCall(int call) {
        if (call < 0 || call >= state.log.size) {
            throw new IndexOutOfBoundsException("no such call");
        }
    }

    private void needLeaver(int call, int index) {
        needCall(call);
        if (index < 0 || index >= state.log.leavers[call]) {
            throw new IndexOutOfBoundsException("no such engine left");
        }
    }

    private void needSlot(int slot) {
        if (slot < 0 || slot >= SLOTS) {
            throw new IndexOutOfBoundsException("no such slot");
        }
    }

    // ---- sets are the bits of a number, pairs of persons are places in a row

    private static boolean has(int set, int number) {
        return (set >> number & 1) != 0;
    }

    /** Returns the number that has so many lower ones in the set; NONE if the set has too few. */
    private static int nthOf(int set, int lower) {
        int seen = 0;
        for (int number = 0; number < PERSONS; number++) {
            if (has(set, number)) {
                if (seen == lower) {
                    return number;
                }
                seen++;
            }
        }
        return NONE;
    }

    private static int pair(int person, int other) {
        return person * PERSONS + other;
    }

    private static void copyAll(int[] from, int[] to) {
        System.arraycopy(from, 0, to, 0, Math.min(from.length, to.length));
    }

    // ---- what a text says

    private static final class Night {
        private int begin;
        private int end;
        private int wake;
        private int sleepLimit;

        private void set(int begin, int end, int wake, int sleepLimit) {
            this.begin = begin;
            this.end = end;
            this.wake = wake;
            this.sleepLimit = sleepLimit;
        }

        private boolean covers(int time) {
            int hour = time / HOUR % 24;
            if (begin < end) {
                return begin <= hour && hour < end;
            }
            return begin <= hour || hour < end;
        }

        private int minutesIn(int from, int to) {
            return minutesBefore(to) - minutesBefore(from);
        }

        private int minutesBefore(int time) {
            int rest = time % DAY;
            int evening = Math.max(0, rest - HOUR * begin);
            if (begin < end) {
                int length = HOUR * (end - begin);
                return time / DAY * length + Math.min(evening, length);
            }
            int length = HOUR * (24 - begin + end);
            return time / DAY * length + Math.min(rest, HOUR * end) + evening;
        }
    }

    private static final class Person {
        private long name;
        private int travel;
        private int skills;
    }

    private static final class Pager {
        private long name;
        private int demand;
        private int turnMinutes;
        private int places;
        private final int[] rotation = new int[PLACES];
    }

    private static final class Engine {
        private long name;
        private int drive;
        private int posts;
        /** The one bit that each post asks for. */
        private final int[] skillAt = new int[POSTS];
        /** For each set of bits, how many posts ask for one of them. */
        private final int[] demand = new int[SKILL_SETS];

        private void addPost(int skill) {
            skillAt[posts] = skill;
            posts++;
            for (int set = 0; set < SKILL_SETS; set++) {
                if ((set & skill) != 0) {
                    demand[set]++;
                }
            }
        }
    }

    private static final class Kind {
        private long name;
        private int duration;
        private int patience;
        private int need;
        private int pagers;
        private final int[] pagerAt = new int[PAGERS];
        private int engines;
        private final int[] engineAt = new int[ENGINES];
    }

    /** All that a text says; it stays as it was read. */
    private static final class Plan {
        private final Night night = new Night();
        private int personCount;
        private final Person[] persons = new Person[PERSONS];
        private int trustCount;
        /** NONE for a pair of which the text says nothing. */
        private final int[] trust = new int[PERSONS * PERSONS];
        private int pagerCount;
        private final Pager[] pagers = new Pager[PAGERS];
        private int engineCount;
        private final Engine[] engines = new Engine[ENGINES];
        private int kindCount;
        private final Kind[] kinds = new Kind[KINDS];
        /** For each set of bits, the persons who have one of them. */
        private final int[] able = new int[SKILL_SETS];

        private Plan() {
            for (int person = 0; person < PERSONS; person++) {
                persons[person] = new Person();
            }
            for (int pager = 0; pager < PAGERS; pager++) {
                pagers[pager] = new Pager();
            }
            for (int engine = 0; engine < ENGINES; engine++) {
                engines[engine] = new Engine();
            }
            for (int kind = 0; kind < KINDS; kind++) {
                kinds[kind] = new Kind();
            }
        }

        private void clear() {
            personCount = 0;
            trustCount = 0;
            Arrays.fill(trust, NONE);
            pagerCount = 0;
            engineCount = 0;
            kindCount = 0;
            Arrays.fill(able, 0);
        }

        private int sizeOf(int sort) {
            switch (sort) {
                case PERSON:
                    return personCount;
                case PAGER:
                    return pagerCount;
                case ENGINE:
                    return engineCount;
                default:
                    return kindCount;
            }
        }

        private long nameOf(int sort, int number) {
            switch (sort) {
                case PERSON:
                    return persons[number].name;
                case PAGER:
                    return pagers[number].name;
                case ENGINE:
                    return engines[number].name;
                default:
                    return kinds[number].name;
            }
        }

        private int numberOf(int sort, long name) {
            for (int number = 0; number < sizeOf(sort); number++) {
                if (nameOf(sort, number) == name) {
                    return number;
                }
            }
            return NONE;
        }

        private void addPerson() {
            for (int set = 0; set < SKILL_SETS; set++) {
                if ((set & persons[personCount].skills) != 0) {
                    able[set] |= 1 << personCount;
                }
            }
            personCount++;
        }

        /** How many of the posts that make this demand the persons could man, each another one. */
        private int mostManned(int[] demand, int among) {
            int most = demand[SKILL_SETS - 1];
            // By Hall's theorem only sets of posts can lack persons, and posts that ask the same lack them together.
            for (int set = 0; set < SKILL_SETS; set++) {
                int others = demand[SKILL_SETS - 1] - demand[set];
                most = Math.min(most, others + Integer.bitCount(able[set] & among));
            }
            return most;
        }
    }

    /** Reads a text into a plan, token by token, up to the first error. */
    private static final class Reader {
        private static final int BAD = 0;
        private static final int WORD = 1;
        private static final int NUMBER = 2;
        private static final int SEMICOLON = 3;
        private static final int COLON = 4;
        private static final int END = 5;

        private static final int WRONG_TOKEN = 1;
        private static final int OUT_OF_RANGE = 2;
        private static final int TWICE = 3;
        private static final int UNKNOWN = 4;
        private static final int NO_ROOM = 5;
        private static final int SELF = 6;

        /** Trusts are a section, but no sort of things with names, so the two are numbered apart. */
        private static final int SECTIONS = 5;

        private final byte[] text;
        private int length;
        private Plan plan;
        /** The token that is looked at: from start up to, but not including, next. */
        private int token;
        private int start;
        private int next;
        /** The token that was taken last. */
        private int takenStart;
        private int takenNumber;
        private long takenName;
        private int error;
        private int errorAt = NONE;

        private Reader(byte[] text) {
            this.text = text;
        }

        private boolean reads(int length, Plan plan) {
            this.length = Math.min(length, text.length);
            this.plan = plan;
            next = 0;
            error = 0;
            errorAt = NONE;
            plan.clear();
            take();
            if (!readsNight()) {
                return false;
            }
            int section = 0;
            for (int items = 0; items < TEXT_ROOM && token != END; items++) {
                int here = sectionOfWord();
                if (here < section) {
                    return fails(WRONG_TOKEN);
                }
                section = here;
                boolean isRead = false;
                switch (section) {
                    case 0:
                        isRead = readsPerson();
                        break;
                    case 1:
                        isRead = readsTrust();
                        break;
                    case 2:
                        isRead = readsPager();
                        break;
                    case 3:
                        isRead = readsEngine();
                        break;
                    default:
                        isRead = readsKind();
                        break;
                }
                if (!isRead || !takesSymbol(SEMICOLON)) {
                    return false;
                }
            }
            return true;
        }

        /** Reads the first bytes as nothing but a name; NONE if they are none. */
        private long wholeAsName(int length) {
            for (int at = 0; at < length; at++) {
                if (at >= text.length || !isLetter(text[at])) {
                    return NONE;
                }
            }
            return length == 0 ? NONE : nameIn(0, length);
        }

        // ---- tokens

        /** Takes the token that is looked at and looks at the next one. */
        private void take() {
            takenStart = start;
            while (next < length && (text[next] == 10 || text[next] == 32)) {
                next++;
            }
            start = next;
            if (next >= length) {
                token = END;
                return;
            }
            next++;
            if (isLetter(text[start])) {
                token = WORD;
                while (next < length && isLetter(text[next])) {
                    next++;
                }
            } else if (isDigit(text[start])) {
                while (next < length && isDigit(text[next])) {
                    next++;
                }
                token = next - start > DIGITS ? BAD : NUMBER;
            } else {
                token = text[start] == ';' ? SEMICOLON : text[start] == ':' ? COLON : BAD;
            }
        }

        private static boolean isLetter(int sign) {
            return sign >= 'a' && sign <= 'z';
        }

        private static boolean isDigit(int sign) {
            return sign >= '0' && sign <= '9';
        }

        /** A name is kept as a number, five bits a letter; NONE for one that is too long. */
        private long nameIn(int from, int to) {
            if (to - from > NAME_ROOM) {
                return NONE;
            }
            long name = 0;
            for (int at = from; at < to; at++) {
                name = name << 5 | text[at] - 'a' + 1;
            }
            return name;
        }

        private boolean isWord(String word) {
            if (token != WORD || next - start != word.length()) {
                return false;
            }
            for (int at = 0; at < word.length(); at++) {
                if (text[start + at] != word.charAt(at)) {
                    return false;
                }
            }
            return true;
        }

        private boolean fails(int code) {
            return failsAt(code, start);
        }

        private boolean failsAt(int code, int position) {
            error = code;
            errorAt = position;
            return false;
        }

        // ---- taking what must stand next; false if it does not

        private boolean takesSymbol(int symbol) {
            if (token != symbol) {
                return fails(WRONG_TOKEN);
            }
            take();
            return true;
        }

        private boolean takesNumber(int least, int greatest) {
            if (token != NUMBER) {
                return fails(WRONG_TOKEN);
            }
            int number = 0;
            for (int at = start; at < next; at++) {
                number = number * 10 + text[at] - '0';
            }
            if (number < least || number > greatest) {
                return fails(OUT_OF_RANGE);
            }
            takenNumber = number;
            take();
            return true;
        }

        private boolean takesName() {
            long name = token == WORD ? nameIn(start, next) : NONE;
            if (name == NONE) {
                return fails(WRONG_TOKEN);
            }
            takenName = name;
            take();
            return true;
        }

        private boolean takesNewName(int sort) {
            if (!takesName()) {
                return false;
            }
            return plan.numberOf(sort, takenName) == NONE || failsAt(TWICE, takenStart);
        }

        /** The number of the thing is taken. */
        private boolean takesNameOf(int sort) {
            if (!takesName()) {
                return false;
            }
            takenNumber = plan.numberOf(sort, takenName);
            return takenNumber != NONE || failsAt(UNKNOWN, takenStart);
        }

        // ---- the parts of the text

        private boolean readsNight() {
            if (!isWord("night")) {
                return fails(WRONG_TOKEN);
            }
            take();
            if (!takesNumber(0, 23)) {
                return false;
            }
            int begin = takenNumber;
            if (!takesNumber(0, 23)) {
                return false;
            }
            int end = takenNumber;
            if (begin == end) {
                return failsAt(OUT_OF_RANGE, takenStart);
            }
            if (!takesNumber(0, 30)) {
                return false;
            }
            int wake = takenNumber;
            if (!takesNumber(1, 999)) {
                return false;
            }
            plan.night.set(begin, end, wake, takenNumber);
            return takesSymbol(SEMICOLON);
        }

        private int sectionOfWord() {
            for (int section = 0; section < SECTIONS; section++) {
                if (isWord(sectionWord(section))) {
                    return section;
                }
            }
            return NONE;
        }

        private static String sectionWord(int section) {
            switch (section) {
                case 0:
                    return "person";
                case 1:
                    return "trust";
                case 2:
                    return "pager";
                case 3:
                    return "engine";
                default:
                    return "kind";
            }
        }

        private boolean readsPerson() {
            if (plan.personCount >= PERSONS) {
                return fails(NO_ROOM);
            }
            take();
            Person person = plan.persons[plan.personCount];
            if (!takesNewName(PERSON)) {
                return false;
            }
            person.name = takenName;
            if (!takesNumber(0, 120)) {
                return false;
            }
            person.travel = takenNumber;
            person.skills = ANY;
            for (int words = 0; words < TEXT_ROOM && token == WORD; words++) {
                int skill = skillOfWord();
                if (skill == 0) {
                    return fails(WRONG_TOKEN);
                }
                if ((person.skills & skill) != 0) {
                    return fails(TWICE);
                }
                person.skills |= skill;
                take();
            }
            plan.addPerson();
            return true;
        }

        /** One bit; 0 if the word is no skill. */
        private int skillOfWord() {
            if (isWord("chief")) {
                return 1;
            }
            if (isWord("driver")) {
                return 2;
            }
            if (isWord("medic")) {
                return 4;
            }
            return isWord("smoke") ? 8 : 0;
        }

        private boolean readsTrust() {
            if (plan.trustCount >= TRUSTS) {
                return fails(NO_ROOM);
            }
            take();
            if (!takesNameOf(PERSON)) {
                return false;
            }
            int person = takenNumber;
            if (!takesNameOf(PERSON)) {
                return false;
            }
            int other = takenNumber;
            if (person == other) {
                return failsAt(SELF, takenStart);
            }
            if (plan.trust[pair(person, other)] != NONE) {
                return failsAt(TWICE, takenStart);
            }
            if (!takesNumber(0, MOST_TRUST)) {
                return false;
            }
            plan.trust[pair(person, other)] = takenNumber;
            plan.trustCount++;
            return true;
        }

        private boolean readsPager() {
            if (plan.pagerCount >= PAGERS) {
                return fails(NO_ROOM);
            }
            take();
            Pager pager = plan.pagers[plan.pagerCount];
            if (!takesNewName(PAGER)) {
                return false;
            }
            pager.name = takenName;
            if (!takesNumber(0, MOST_TRUST)) {
                return false;
            }
            pager.demand = takenNumber;
            if (!takesNumber(1, 168)) {
                return false;
            }
            pager.turnMinutes = HOUR * takenNumber;
            pager.places = 0;
            for (int names = 0; names < TEXT_ROOM && (names == 0 || token == WORD); names++) {
                if (!takesNameOf(PERSON)) {
                    return false;
                }
                if (pager.places >= PLACES) {
                    return failsAt(NO_ROOM, takenStart);
                }
                pager.rotation[pager.places] = takenNumber;
                pager.places++;
            }
            plan.pagerCount++;
            return true;
        }

        private boolean readsEngine() {
            if (plan.engineCount >= ENGINES) {
                return fails(NO_ROOM);
            }
            take();
            Engine engine = plan.engines[plan.engineCount];
            if (!takesNewName(ENGINE)) {
                return false;
            }
            engine.name = takenName;
            if (!takesNumber(0, 120)) {
                return false;
            }
            engine.drive = takenNumber;
            engine.posts = 0;
            Arrays.fill(engine.demand, 0);
            for (int words = 0; words < TEXT_ROOM && (words == 0 || token == WORD); words++) {
                int skill = isWord("any") ? ANY : skillOfWord();
                if (skill == 0) {
                    return fails(WRONG_TOKEN);
                }
                if (engine.posts >= POSTS) {
                    return fails(NO_ROOM);
                }
                engine.addPost(skill);
                take();
            }
            plan.engineCount++;
            return true;
        }

        private boolean readsKind() {
            if (plan.kindCount >= KINDS) {
                return fails(NO_ROOM);
            }
            take();
            Kind kind = plan.kinds[plan.kindCount];
            if (!takesNewName(KIND)) {
                return false;
            }
            kind.name = takenName;
            if (!takesNumber(1, 999)) {
                return false;
            }
            kind.duration = takenNumber;
            if (!takesNumber(0, 240)) {
                return false;
            }
            kind.patience = takenNumber;
            if (!takesNumber(1, 5)) {
                return false;
            }
            kind.need = takenNumber;
            if (!takesSymbol(COLON)) {
                return false;
            }
            kind.pagers = readDifferent(PAGER, kind.pagerAt);
            if (kind.pagers == NONE || !takesSymbol(COLON)) {
                return false;
            }
            kind.engines = readDifferent(ENGINE, kind.engineAt);
            if (kind.engines == NONE) {
                return false;
            }
            plan.kindCount++;
            return true;
        }

        /** Reads one or more names of different things; returns how many, NONE after an error. */
        private int readDifferent(int sort, int[] numbers) {
            int size = 0;
            for (int names = 0; names < TEXT_ROOM && (names == 0 || token == WORD); names++) {
                if (!takesNameOf(sort)) {
                    return NONE;
                }
                for (int at = 0; at < size; at++) {
                    if (numbers[at] == takenNumber) {
                        failsAt(TWICE, takenStart);
                        return NONE;
                    }
                }
                // Different things are never more than there is room for.
                if (size < numbers.length) {
                    numbers[size] = takenNumber;
                    size++;
                }
            }
            return size;
        }
    }

    // ---- what changes

    /** What is told of the calls that came. */
    private static final class CallLog {
        private int size;
        private final int[] costs = new int[CALLS];
        /** A set of calls. */
        private int answered;
        private final int[] comers = new int[CALLS];
        private final int[] leavers = new int[CALLS];
        private final int[] engines = new int[CALLS * ENGINES];
        private final int[] leaveTimes = new int[CALLS * ENGINES];
        private final int[] crews = new int[CALLS * ENGINES];

        private void copyFrom(CallLog other) {
            size = other.size;
            copyAll(other.costs, costs);
            answered = other.answered;
            copyAll(other.comers, comers);
            copyAll(other.leavers, leavers);
            copyAll(other.engines, engines);
            copyAll(other.leaveTimes, leaveTimes);
            copyAll(other.crews, crews);
        }

        private void open(int comersNow) {
            comers[size] = comersNow;
            leavers[size] = 0;
        }

        private void addLeaver(int engine, int time, int crew) {
            int at = size * ENGINES + leavers[size];
            engines[at] = engine;
            leaveTimes[at] = time;
            crews[at] = crew;
            leavers[size]++;
        }

        private int close(int cost, boolean isAnsweredNow) {
            costs[size] = cost;
            answered = isAnsweredNow ? answered | 1 << size : answered & ~(1 << size);
            size++;
            return size - 1;
        }
    }

    private static final class State {
        private Plan plan;
        private int time;
        private final int[] lost = new int[PERSONS];
        private final int[] outUntil = new int[PERSONS];
        private final int[] paid = new int[PERSONS];
        private int excused;
        private final int[] trust = new int[PERSONS * PERSONS];
        private final int[] rotation = new int[PAGERS * PLACES];
        /** How many hand-ons each pager has, those that are over not among them. */
        private final int[] handOns = new int[PAGERS];
        private final int[] handedTo = new int[PAGERS * HAND_ONS];
        private final int[] handOnEnds = new int[PAGERS * HAND_ONS];
        private final int[] returns = new int[ENGINES];
        private final int[] crews = new int[ENGINES];
        private int service;
        private final CallLog log = new CallLog();
        /** No part of the state, but a row to reckon in, so that no question has to make one. */
        private final int[] best = new int[PERSONS];

        /** The state of a plan that has only a night. */
        private State(Plan plan) {
            this.plan = plan;
        }

        private void begin(Plan newPlan) {
            plan = newPlan;
            time = 0;
            Arrays.fill(lost, 0);
            Arrays.fill(outUntil, 0);
            Arrays.fill(paid, 0);
            excused = 0;
            for (int at = 0; at < trust.length; at++) {
                trust[at] = Math.max(0, plan.trust[at]);
            }
            for (int pager = 0; pager < plan.pagerCount; pager++) {
                System.arraycopy(plan.pagers[pager].rotation, 0, rotation, pager * PLACES, PLACES);
            }
            Arrays.fill(handOns, 0);
            Arrays.fill(returns, 0);
            service = (1 << plan.engineCount) - 1;
            log.size = 0;
        }

        private void copyFrom(State other) {
            plan = other.plan;
            time = other.time;
            copyAll(other.lost, lost);
            copyAll(other.outUntil, outUntil);
            copyAll(other.paid, paid);
            excused = other.excused;
            copyAll(other.trust, trust);
            copyAll(other.rotation, rotation);
            copyAll(other.handOns, handOns);
            copyAll(other.handedTo, handedTo);
            copyAll(other.handOnEnds, handOnEnds);
            copyAll(other.returns, returns);
            copyAll(other.crews, crews);
            service = other.service;
            log.copyFrom(other.log);
        }

        // ---- persons

        private boolean isOut(int person) {
            return outUntil[person] > time;
        }

        private boolean isTired(int person) {
            return lost[person] >= plan.night.sleepLimit;
        }

        /** The lost sleep at the present time or a later one: it grows until the person returns, then it falls. */
        private int lostAt(int person, int then) {
            int turning = Math.min(Math.max(outUntil[person], time), then);
            int grown = plan.night.minutesIn(time, turning);
            int fallen = plan.night.minutesIn(turning, then);
            return Math.max(0, lost[person] + grown - fallen);
        }

        /** LAST_TIME + 1 if the person stays tired. */
        private int firstRested(int person) {
            if (!isTired(person)) {
                return time;
            }
            // Who is tired stays so until the return and can only rest from then on, so the last tired time can be
            // sought by ever smaller leaps.
            int lastTired = time;
            for (int leap = 1 << 14; leap > 0; leap /= 2) {
                int then = lastTired + leap;
                if (then <= LAST_TIME && lostAt(person, then) >= plan.night.sleepLimit) {
                    lastTired = then;
                }
            }
            return lastTired + 1;
        }

        private int arrivalOf(int person) {
            return plan.persons[person].travel + (plan.night.covers(time) ? plan.night.wake : 0);
        }

        private int bestRow(int person, int other) {
            for (int to = 0; to < plan.personCount; to++) {
                best[to] = to == person ? MOST_TRUST : trust[pair(person, to)];
            }
            // No row is longer than there are persons, so so many rounds find the best one.
            for (int round = 0; round < plan.personCount; round++) {
                for (int by = 0; by < plan.personCount; by++) {
                    for (int to = 0; to < plan.personCount; to++) {
                        int along = by == to ? 0 : Math.min(best[by], trust[pair(by, to)]);
                        best[to] = Math.max(best[to], along);
                    }
                }
            }
            return best[other];
        }

        private void shiftTrust(int person, int other, int by) {
            int shifted = trust[pair(person, other)] + by;
            if (shifted >= 0 && shifted <= MOST_TRUST) {
                trust[pair(person, other)] = shifted;
            }
        }

        /** Returns what the person is paid for this. */
        private int sendAway(int person, int until) {
            outUntil[person] = until;
            int sum = until - time + plan.night.minutesIn(time, until);
            paid[person] += sum;
            return sum;
        }

        // ---- pagers

        private int placeAt(int pager, int then) {
            int turn = then / Math.max(1, plan.pagers[pager].turnMinutes);
            return turn % Math.max(1, plan.pagers[pager].places);
        }

        /** How many of the hand-ons are not over at the present time or a later one; the first ones end last. */
        private int handOnsAt(int pager, int then) {
            int lasting = 0;
            for (int at = 0; at < handOns[pager]; at++) {
                if (handOnEnds[pager * HAND_ONS + at] > then) {
                    lasting++;
                }
            }
            return lasting;
        }

        private int holderThen(int pager, int then) {
            int lasting = handOnsAt(pager, then);
            if (lasting > 0) {
                return handedTo[pager * HAND_ONS + lasting - 1];
            }
            return rotation[pager * PLACES + placeAt(pager, then)];
        }

        private int endAt(int pager, int then) {
            int lasting = handOnsAt(pager, then);
            if (lasting > 0) {
                return handOnEnds[pager * HAND_ONS + lasting - 1];
            }
            int turnMinutes = Math.max(1, plan.pagers[pager].turnMinutes);
            return (then / turnMinutes + 1) * turnMinutes;
        }

        private int chainPerson(int pager, int index) {
            if (index > 0) {
                return handedTo[pager * HAND_ONS + index - 1];
            }
            return rotation[pager * PLACES + placeAt(pager, time)];
        }

        private boolean isInChain(int pager, int person) {
            for (int index = 0; index <= handOns[pager]; index++) {
                if (chainPerson(pager, index) == person) {
                    return true;
                }
            }
            return false;
        }

        private boolean isTrustedByChain(int pager, int person) {
            for (int index = 0; index <= handOns[pager]; index++) {
                if (trust[pair(chainPerson(pager, index), person)] < plan.pagers[pager].demand) {
                    return false;
                }
            }
            return true;
        }

        private int reasonAgainst(int pager, int person, int until) {
            if (isOut(chainPerson(pager, handOns[pager]))) {
                return 1;
            }
            if (isInChain(pager, person)) {
                return 2;
            }
            if (has(excused, person)) {
                return 3;
            }
            if (isOut(person)) {
                return 4;
            }
            if (isTired(person)) {
                return 5;
            }
            if (!isTrustedByChain(pager, person)) {
                return 6;
            }
            if (handOns[pager] >= HAND_ONS) {
                return 7;
            }
            return until <= time || until > endAt(pager, time) ? 8 : 0;
        }

        private void addHandOn(int pager, int person, int until) {
            if (handOns[pager] < HAND_ONS) {
                handedTo[pager * HAND_ONS + handOns[pager]] = person;
                handOnEnds[pager * HAND_ONS + handOns[pager]] = until;
                handOns[pager]++;
            }
        }

        private void dropHandOn(int pager) {
            handOns[pager] = Math.max(0, handOns[pager] - 1);
        }

        private int dutyUpTo(int person, int end) {
            int sum = 0;
            int then = time;
            for (int spans = 0; spans < DAY && then < end; spans++) {
                int spanEnd = end;
                boolean isOnDuty = false;
                for (int pager = 0; pager < plan.pagerCount; pager++) {
                    spanEnd = Math.min(spanEnd, endAt(pager, then));
                    isOnDuty = isOnDuty || holderThen(pager, then) == person;
                }
                sum += isOnDuty ? spanEnd - then : 0;
                then = spanEnd;
            }
            return sum;
        }

        // ---- engines and the time

        private boolean isEngineOut(int engine) {
            return returns[engine] > time;
        }

        /** Returns how many engines return. */
        private int advance(int minutes) {
            int then = time + minutes;
            for (int person = 0; person < plan.personCount; person++) {
                lost[person] = lostAt(person, then);
            }
            for (int pager = 0; pager < plan.pagerCount; pager++) {
                handOns[pager] = handOnsAt(pager, then);
            }
            int returned = 0;
            for (int engine = 0; engine < plan.engineCount; engine++) {
                if (isEngineOut(engine) && returns[engine] <= then) {
                    growTrustIn(crews[engine]);
                    returned++;
                }
            }
            time = then;
            return returned;
        }

        private void growTrustIn(int crew) {
            for (int person = 0; person < PERSONS; person++) {
                for (int other = 0; other < PERSONS; other++) {
                    if (person != other && has(crew, person) && has(crew, other)) {
                        shiftTrust(person, other, 1);
                    }
                }
            }
        }
    }

    /** Who comes to a call, and which engines leave with whom. */
    private static final class Muster {
        private State state;
        private Plan plan;
        private final int[] absence = new int[PERSONS];
        private final int[] arrivals = new int[PERSONS];
        private int comers;
        /** Those who come and are in no crew yet. */
        private int free;
        /** For each engine of the kind, in its order. */
        private final int[] stay = new int[ENGINES];
        private final int[] mannable = new int[ENGINES];
        private final int[] crews = new int[ENGINES];
        private final int[] departs = new int[ENGINES];
        private final int[] demandLeft = new int[SKILL_SETS];

        private Muster(State state) {
            this.state = state;
            this.plan = state.plan;
        }

        /** Foresees a call in a state; returns whether it would be answered. */
        private boolean foresee(State present, Kind kind) {
            state = present;
            plan = present.plan;
            alert(kind);
            free = comers;
            int leaving = 0;
            for (int index = 0; index < kind.engines; index++) {
                lookAtEngine(index, kind.engineAt[index]);
                if (stay[index] == 0) {
                    leaving++;
                }
            }
            return leaving >= kind.need;
        }

        private void alert(Kind kind) {
            int holders = 0;
            for (int at = 0; at < kind.pagers; at++) {
                holders |= 1 << state.holderThen(kind.pagerAt[at], state.time);
            }
            comers = 0;
            for (int person = 0; person < plan.personCount; person++) {
                arrivals[person] = state.arrivalOf(person);
                absence[person] = has(holders, person) ? absenceOfHolder(person, kind.patience) : 1;
                if (absence[person] == 0) {
                    comers |= 1 << person;
                }
            }
        }

        private int absenceOfHolder(int person, int patience) {
            if (has(state.excused, person)) {
                return 2;
            }
            if (state.isOut(person)) {
                return 3;
            }
            if (state.isTired(person)) {
                return 4;
            }
            return arrivals[person] > patience ? 5 : 0;
        }

        private void lookAtEngine(int index, int number) {
            Engine engine = plan.engines[number];
            mannable[index] = plan.mostManned(engine.demand, free);
            crews[index] = 0;
            departs[index] = 0;
            if (!has(state.service, number)) {
                stay[index] = 1;
            } else if (state.isEngineOut(number)) {
                stay[index] = 2;
            } else if (mannable[index] < engine.posts) {
                stay[index] = 3;
            } else {
                stay[index] = 0;
                departs[index] = earliestDeparture(engine);
                crews[index] = firstCrew(engine, freeWithin(departs[index]));
                free &= ~crews[index];
            }
        }

        private int freeWithin(int minutes) {
            int set = 0;
            for (int person = 0; person < plan.personCount; person++) {
                if (has(free, person) && arrivals[person] <= minutes) {
                    set |= 1 << person;
                }
            }
            return set;
        }

        /** There is a full crew among those who are free. */
        private int earliestDeparture(Engine engine) {
            // Nobody arrives as late as after a day.
            int earliest = DAY;
            for (int person = 0; person < plan.personCount; person++) {
                int minutes = arrivals[person];
                if (has(free, person) && minutes < earliest
                        && plan.mostManned(engine.demand, freeWithin(minutes)) == engine.posts) {
                    earliest = minutes;
                }
            }
            return earliest;
        }

        /** Whoever can have a post beside the lower ones taken before is in the first crew: posts can be exchanged. */
        private int firstCrew(Engine engine, int among) {
            int crew = 0;
            int size = 0;
            for (int person = 0; person < plan.personCount; person++) {
                int wider = crew | 1 << person;
                if (has(among, person) && plan.mostManned(engine.demand, wider) > size) {
                    crew = wider;
                    size++;
                }
            }
            return crew;
        }

        /** Who mans a post if each post in turn takes the lowest one with whom the crew still mans the rest. */
        private int personAt(Engine engine, int crew, int post) {
            copyAll(engine.demand, demandLeft);
            int rest = crew;
            int chosen = NONE;
            for (int at = 0; at <= post && at < engine.posts; at++) {
                int skill = engine.skillAt[at];
                for (int set = 0; set < SKILL_SETS; set++) {
                    demandLeft[set] -= (set & skill) != 0 ? 1 : 0;
                }
                chosen = lowestFor(skill, rest);
                if (chosen != NONE) {
                    rest &= ~(1 << chosen);
                }
            }
            return chosen;
        }

        private int lowestFor(int skill, int rest) {
            int others = demandLeft[SKILL_SETS - 1];
            for (int person = 0; person < plan.personCount; person++) {
                if (has(rest & plan.able[skill], person)
                        && plan.mostManned(demandLeft, rest & ~(1 << person)) == others) {
                    return person;
                }
            }
            return NONE;
        }

        private int mostTogether(Kind kind) {
            int most = 0;
            for (int set = 0; set < 1 << kind.engines; set++) {
                if (Integer.bitCount(set) > most && couldLeaveTogether(kind, set)) {
                    most = Integer.bitCount(set);
                }
            }
            return most;
        }

        private boolean couldLeaveTogether(Kind kind, int set) {
            Arrays.fill(demandLeft, 0);
            for (int index = 0; index < kind.engines; index++) {
                if (has(set, index)) {
                    if (stay[index] == 1 || stay[index] == 2) {
                        return false;
                    }
                    Engine engine = plan.engines[kind.engineAt[index]];
                    for (int skills = 0; skills < SKILL_SETS; skills++) {
                        demandLeft[skills] += engine.demand[skills];
                    }
                }
            }
            return plan.mostManned(demandLeft, comers) == demandLeft[SKILL_SETS - 1];
        }

        /** Lets the call come that was foreseen last; returns its number. */
        private int carryOut(Kind kind) {
            loseTrust(kind);
            state.log.open(Integer.bitCount(comers));
            int cost = 0;
            int leaving = 0;
            for (int index = 0; index < kind.engines; index++) {
                if (stay[index] == 0) {
                    cost += ENGINE_COST + sendEngine(kind, index);
                    leaving++;
                }
            }
            for (int person = 0; person < plan.personCount; person++) {
                if (has(free, person)) {
                    int away = arrivals[person] + plan.persons[person].travel;
                    cost += state.sendAway(person, state.time + away);
                }
            }
            return state.log.close(cost, leaving >= kind.need);
        }

        private void loseTrust(Kind kind) {
            for (int at = 0; at < kind.pagers; at++) {
                int pager = kind.pagerAt[at];
                int last = state.handOns[pager];
                if (last > 0) {
                    int holder = state.chainPerson(pager, last);
                    if (absence[holder] != 0) {
                        state.shiftTrust(state.chainPerson(pager, last - 1), holder, -1);
                    }
                }
            }
        }

        /** Returns what the crew is paid. */
        private int sendEngine(Kind kind, int index) {
            int number = kind.engineAt[index];
            int leaves = state.time + departs[index];
            int back = leaves + 2 * plan.engines[number].drive + kind.duration;
            state.returns[number] = back;
            state.crews[number] = crews[index];
            state.log.addLeaver(number, leaves, crews[index]);
            int sum = 0;
            for (int person = 0; person < plan.personCount; person++) {
                if (has(crews[index], person)) {
                    sum += state.sendAway(person, back);
                }
            }
            return sum;
        }
    }

    /** The states before the latest changes, and the saved ones. */
    private static final class History {
        private int keptCount;
        /** The oldest one first. */
        private final State[] kept = new State[CHANGES];
        private final State[] slots = new State[SLOTS];
        private final boolean[] isSlotFilled = new boolean[SLOTS];

        private History(Plan plan) {
            for (int at = 0; at < CHANGES; at++) {
                kept[at] = new State(plan);
            }
            for (int slot = 0; slot < SLOTS; slot++) {
                slots[slot] = new State(plan);
            }
        }

        private void clear() {
            keptCount = 0;
            for (int slot = 0; slot < SLOTS; slot++) {
                isSlotFilled[slot] = false;
            }
        }

        private void keep(State state) {
            if (keptCount >= CHANGES) {
                forgetOldest();
            }
            kept[keptCount].copyFrom(state);
            keptCount++;
        }

        private void forgetOldest() {
            State oldest = kept[0];
            for (int at = 1; at < CHANGES; at++) {
                kept[at - 1] = kept[at];
            }
            kept[CHANGES - 1] = oldest;
            keptCount = CHANGES - 1;
        }

        private void takeBack(State state) {
            if (keptCount > 0) {
                keptCount--;
                state.copyFrom(kept[keptCount]);
            }
        }
    }
}
