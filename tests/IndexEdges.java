/** "if there is no such ..": for every number of a person, pager, engine, kind or call what is beyond both of its ends. */
final class IndexEdges {
    interface Asked {
        void of(BrigadePagers x, int number);
    }

    private static final Class<IndexOutOfBoundsException> NO_INDEX = IndexOutOfBoundsException.class;
    private static final int PERSON = 0;
    private static final int PAGER = 1;
    private static final int ENGINE = 2;
    private static final int KIND = 3;
    private static final int CALL = 4;
    private static final String[] SORTS = {"person", "pager", "engine", "kind", "call"};

    private IndexEdges() {
    }

    static void run() {
        persons();
        pairsOfPersons();
        pagers();
        pagersAndPersons();
        enginesAndCalls();
        kinds();
        kindsAndEngines();
        kindsWithOneEngine();
    }

    private static void noSuch(int promise, String words, int sort, Asked asked) {
        Sentence.of(promise, "Throws `IndexOutOfBoundsException` if " + words);
        String sorted = SORTS[sort] + " ";
        Refusal.due(sorted + "0 when there is nothing yet", NO_INDEX, () -> new BrigadePagers(), x -> asked.of(x, 0));
        int few = Scenes.busy().count(sort);
        taken(sorted + "0", asked, Scenes.busy(), 0);
        taken(sorted + "that is the last one", asked, Scenes.busy(), few - 1);
        for (int number : new int[] {-1, few, few + 1, 32, Integer.MIN_VALUE, Integer.MAX_VALUE}) {
            Refusal.due(sorted + number + " of " + few, NO_INDEX, () -> Scenes.busy(), x -> asked.of(x, number));
        }
        int many = Scenes.fullOfCalls().count(sort);
        taken(sorted + "that is the last one of all", asked, Scenes.fullOfCalls(), many - 1);
        for (int number : new int[] {-1, many, many + 1}) {
            Check.refused(sorted + number + " of " + many, NO_INDEX, () -> asked.of(Scenes.fullOfCalls(), number));
        }
    }

    /** There may be another exception, but the number is one. */
    private static void taken(String what, Asked asked, BrigadePagers x, int number) {
        boolean isTaken = true;
        try {
            asked.of(x, number);
        } catch (IndexOutOfBoundsException refused) {
            isTaken = false;
        } catch (RuntimeException other) {
            isTaken = true;
        }
        Check.due("that there is " + what, isTaken, true);
    }

    private static int otherThan(int person) {
        return person == 0 ? 1 : 0;
    }

    private static void persons() {
        String words = "there is no such person";
        noSuch(11, words, PERSON, (x, person) -> x.outUntil(person));
        noSuch(12, words, PERSON, (x, person) -> x.lostSleep(person));
        noSuch(13, words, PERSON, (x, person) -> x.lostSleepAfter(person, 0));
        noSuch(14, words, PERSON, (x, person) -> x.restedAt(person));
        noSuch(15, words, PERSON, (x, person) -> x.arrival(person));
        noSuch(16, words, PERSON, (x, person) -> x.pay(person));
        noSuch(24, words, PERSON, (x, person) -> x.dutyMinutes(person, 1));
        noSuch(51, words, PERSON, (x, person) -> x.excuse(person, true));
        noSuch(51, words, PERSON, (x, person) -> x.excuse(person, false));
    }

    private static void pairsOfPersons() {
        String words = "there is no such person (of either)";
        noSuch(17, words, PERSON, (x, person) -> x.trust(person, otherThan(person)));
        noSuch(17, words, PERSON, (x, person) -> x.trust(otherThan(person), person));
        noSuch(18, words, PERSON, (x, person) -> x.trustPath(person, otherThan(person)));
        noSuch(18, words, PERSON, (x, person) -> x.trustPath(otherThan(person), person));
        noSuch(53, words, PERSON, (x, person) -> x.setTrust(person, otherThan(person), 9));
        noSuch(53, words, PERSON, (x, person) -> x.setTrust(otherThan(person), person, 9));
    }

    private static void pagers() {
        String words = "there is no such pager";
        noSuch(19, "there is no such pager, or the chain has no such person", PAGER, (x, pager) -> x.chain(pager, 0));
        noSuch(20, words, PAGER, (x, pager) -> x.handOns(pager));
        noSuch(21, words, PAGER, (x, pager) -> x.holdingEnd(pager));
        noSuch(22, "there is no such pager or place", PAGER, (x, pager) -> x.rotation(pager, 0));
        noSuch(23, words, PAGER, (x, pager) -> x.holderAt(pager, 20160));
        noSuch(48, words, PAGER, (x, pager) -> x.giveBack(pager));
        noSuch(50, "there is no such pager or place (of either)", PAGER, (x, pager) -> x.swapPlaces(pager, 0, 0));
    }

    private static void pagersAndPersons() {
        String words = "there is no such pager or person";
        noSuch(25, words, PAGER, (x, pager) -> x.whyNotHandOn(pager, 0, 700));
        noSuch(25, words, PERSON, (x, person) -> x.whyNotHandOn(0, person, 700));
        noSuch(26, words, PAGER, (x, pager) -> x.steps(pager, 0));
        noSuch(26, words, PERSON, (x, person) -> x.steps(0, person));
        noSuch(47, words, PAGER, (x, pager) -> x.handOn(pager, 0, 20160));
        noSuch(47, words, PERSON, (x, person) -> x.handOn(0, person, 20160));
    }

    private static void enginesAndCalls() {
        noSuch(27, "there is no such engine", ENGINE, (x, engine) -> x.returnsAt(engine));
        noSuch(52, "there is no such engine", ENGINE, (x, engine) -> x.setService(engine, true));
        noSuch(52, "there is no such engine", ENGINE, (x, engine) -> x.setService(engine, false));
        String words = "there is no such call";
        noSuch(28, words, CALL, (x, call) -> x.cost(call));
        noSuch(29, words, CALL, (x, call) -> x.isAnswered(call));
        noSuch(30, words, CALL, (x, call) -> x.came(call));
        noSuch(31, words, CALL, (x, call) -> x.left(call));
        noSuch(32, words + ", or no such engine left", CALL, (x, call) -> x.engine(call, 0));
        noSuch(33, words + ", or no such engine left", CALL, (x, call) -> x.leftAt(call, 0));
        noSuch(34, words + ", no such engine left, or there is no such member", CALL, (x, call) -> x.member(call, 0, 0));
    }

    private static void kinds() {
        String words = "there is no such kind";
        noSuch(36, "there is no such kind or person", KIND, (x, kind) -> x.whyAbsent(kind, 0));
        noSuch(36, "there is no such kind or person", PERSON, (x, person) -> x.whyAbsent(0, person));
        noSuch(41, words, KIND, (x, kind) -> x.wouldAnswer(kind));
        noSuch(42, words, KIND, (x, kind) -> x.mostEngines(kind));
        noSuch(43, words, KIND, (x, kind) -> x.hoursUntilAnswered(kind));
        noSuch(44, words, KIND, (x, kind) -> x.helpfulPager(kind));
        noSuch(45, words, KIND, (x, kind) -> x.helpfulPerson(kind));
        noSuch(46, words, KIND, (x, kind) -> x.call(kind));
    }

    private static void kindsAndEngines() {
        String words = "there is no such kind, or it has no such engine";
        kindEngine(37, words, (x, kind) -> x.whyStays(kind, 0), (x, index) -> x.whyStays(0, index));
        kindEngine(38, words, (x, kind) -> x.departure(kind, 0), (x, index) -> x.departure(0, index));
        kindEngine(39, "there is no such kind, it has no such engine, or the engine has no such post",
                (x, kind) -> x.mans(kind, 0, 0), (x, index) -> x.mans(0, index, 0));
        kindEngine(40, words, (x, kind) -> x.manned(kind, 0), (x, index) -> x.manned(0, index));
    }

    /** The first kind of both brigades names all engines. */
    private static void kindEngine(int promise, String words, Asked ofKind, Asked ofIndex) {
        noSuch(promise, words, KIND, ofKind);
        noSuch(promise, words, ENGINE, ofIndex);
    }

    private static void kindsWithOneEngine() {
        Sentence.of(37, "Throws `IndexOutOfBoundsException` if there is no such kind, or it has no such engine");
        BrigadePagers full = Scenes.full();
        for (int kind = 2; kind <= 3; kind++) {
            int asked = kind;
            taken("the one engine of a kind", (x, index) -> x.whyStays(asked, index), full, 0);
            for (int index : new int[] {-1, 1, 4}) {
                Check.refused("whyStays of a kind with one engine", NO_INDEX, () -> full.whyStays(asked, index));
                Check.refused("manned of a kind with one engine", NO_INDEX, () -> full.manned(asked, index));
                Check.refused("departure of a kind with one engine", NO_INDEX, () -> full.departure(asked, index));
                Check.refused("mans of a kind with one engine", NO_INDEX, () -> full.mans(asked, index, 0));
            }
        }
    }
}
