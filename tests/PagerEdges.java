import java.util.NoSuchElementException;

/** The boundary cases of PAGERS and the promises 19 to 26. */
final class PagerEdges {
    private static final int TERMS = Sentence.TERMS;
    private static final String FIVE = "person a 0;person b 0;person c 0;person d 0;person e 0;trust a b 5;trust a c 5;"
            + "trust b c 5;trust a d 5;trust b d 5;trust c d 5;";
    /** Kind k sends a away for 3 minutes, kind l sends b away for 10. Pager p asks for a trust of 5, the others for none. */
    static final String TEXT = "night 22 6 0 5;" + FIVE + "trust a e 5;trust b e 5;trust c e 5;trust d e 5;"
            + "pager p 5 10 a;pager q 0 10 b;pager r 0 10 a;engine f 0 any;engine g 0 any;kind k 3 240 1:r:f;"
            + "kind l 10 240 1:q:g;";
    private static final Class<IndexOutOfBoundsException> NO_INDEX = IndexOutOfBoundsException.class;
    private static final Class<IllegalArgumentException> NO_ARGUMENT = IllegalArgumentException.class;
    private static final Class<IllegalStateException> NO_STATE = IllegalStateException.class;
    private static final Class<NoSuchElementException> NONE_SUCH = NoSuchElementException.class;

    private PagerEdges() {
    }

    static void run() {
        turns();
        chains();
        ends();
        firstFourReasons();
        lastFourReasons();
        everyReasonAtOnce();
        chainHandOnsRotation();
        holderAt();
        dutyMinutes();
        whyNotHandOn();
        steps();
    }

    private static BrigadePagers at(int time, String text) {
        BrigadePagers x = Check.brigade(text);
        Check.passTo(x, time);
        return x;
    }

    private static void turns() {
        Sentence.of(TERMS, "Turn n of a pager (from 0 on) begins at the time n * 60 * length and ends when turn n + 1 begins.");
        String text = Scenes.NIGHT + "person a 1;person b 1;pager p 0 1 a b;pager q 0 168 a b;";
        int[][] due = {{0, 0, 60, 0, 10080}, {59, 0, 60, 0, 10080}, {60, 1, 120, 0, 10080}, {119, 1, 120, 0, 10080},
            {120, 0, 180, 0, 10080}, {10079, 1, 10080, 0, 10080}, {10080, 0, 10140, 1, 20160}, {20159, 1, 20160, 1, 20160},
            {20160, 0, 20220, 0, 30240}};
        BrigadePagers x = Check.brigade(text);
        BrigadePagers first = Check.brigade(text);
        for (int[] row : due) {
            Check.passTo(x, row[0]);
            for (int pager = 0; pager < 2; pager++) {
                Check.due("chain(" + pager + ", 0) at " + row[0], x.chain(pager, 0), row[1 + 2 * pager]);
                Check.due("holdingEnd(" + pager + ") at " + row[0], x.holdingEnd(pager), row[2 + 2 * pager]);
                Check.due("holderAt(" + pager + ", " + row[0] + ")", first.holderAt(pager, row[0]), row[1 + 2 * pager]);
            }
        }
        Sentence.of(TERMS, "During turn n, the present place of the rotation is n modulo the number of its places, "
                + "and the owner of the pager is the person of this place.");
        BrigadePagers y = Check.brigade(Scenes.NIGHT + Texts.many("person ", 8, " 1;")
                + "pager p 0 2 a b c;pager q 0 2 h g f e d c b a;pager r 0 2 e;");
        int[] owners = {0, 1, 2, 0, 1, 2, 0, 1, 2, 0};
        for (int turn = 0; turn < owners.length; turn++) {
            Check.passTo(y, 120 * turn);
            Check.due("the owner of three in turn " + turn, y.chain(0, 0), owners[turn]);
            Check.due("the owner of eight in turn " + turn, y.chain(1, 0), 7 - turn % 8);
            Check.due("the owner of one in turn " + turn, y.chain(2, 0), 4);
            int present = turn % 3;
            Refusal.due("swapPlaces of the present place in turn " + turn, NO_STATE,
                    () -> at(120 * 3 + 120 * present, Scenes.TEXT.replace("p 0 20 a b c a", "p 0 2 a b c")),
                    z -> z.swapPlaces(0, present, (present + 1) % 3));
        }
    }

    /** Pager p is handed on from a to b, c and d. */
    private static BrigadePagers handed() {
        BrigadePagers x = Check.brigade(TEXT);
        x.handOn(0, 1, 600);
        x.handOn(0, 2, 500);
        x.handOn(0, 3, 500);
        return x;
    }

    private static void chains() {
        Sentence.of(TERMS, "The chain of a pager is its owner, followed by those to whom it was handed on, in this order; ");
        BrigadePagers x = Check.brigade(TEXT);
        Check.due("the chain without a hand-on", x.chain(0, 0), 0);
        Check.refused("the second one without a hand-on", NO_INDEX, () -> x.chain(0, 1));
        for (int index = 0; index < 4; index++) {
            Check.due("chain(0, " + index + ")", handed().chain(0, index), index);
        }
        Sentence.of(TERMS, "the last one of the chain is the holder.");
        Check.due("the holder without a hand-on", x.holderAt(0, 0), 0);
        x.handOn(0, 1, 600);
        Check.due("the holder with one", x.holderAt(0, 0), 1);
        Check.due("the holder with three", handed().holderAt(0, 0), 3);
    }

    private static void ends() {
        Sentence.of(TERMS, "A hand-on has an end, which is never later than the end of the hand-on before it in the same chain, "
                + "nor than the end of the turn.");
        BrigadePagers x = Check.brigade(TEXT);
        Check.refused("handOn beyond the turn", NO_STATE, () -> x.handOn(0, 1, 601));
        x.handOn(0, 1, 600);
        Check.refused("a second one beyond the turn", NO_STATE, () -> x.handOn(0, 2, 601));
        x.handOn(0, 2, 300);
        Check.refused("a third one beyond the second one", NO_STATE, () -> x.handOn(0, 3, 301));
        Check.due("a third one to the same end", x.handOn(0, 3, 300), 3);

        Sentence.of(TERMS, "A hand-on is over at its end ");
        BrigadePagers y = handed();
        Check.passTo(y, 499);
        Check.due("handOns(0) at 499", y.handOns(0), 3);
        y.pass(1);
        Check.due("handOns(0) at 500, the end of two", y.handOns(0), 1);
        Check.due("the holder at 500", y.chain(0, 1), 1);
        y.pass(99);
        Check.due("handOns(0) at 599", y.handOns(0), 1);
        y.pass(1);
        Check.due("handOns(0) at 600", y.handOns(0), 0);
        Check.due("the holder at 600", y.holderAt(0, 600), 0);
        Check.due("handOns(0) after a long step", passed(handed(), 1440).handOns(0), 0);

        Sentence.of(TERMS, "(at the end of a turn also if the next owner is the same person).");
        BrigadePagers z = at(599, TEXT);
        z.handOn(0, 1, 600);
        Check.due("the holder at 599", z.holderAt(0, 599), 1);
        Check.due("the holder foretold for 600", z.holderAt(0, 600), 0);
        z.pass(1);
        Check.due("handOns(0) at 600", z.handOns(0), 0);
        Check.due("chain(0, 0) at 600", z.chain(0, 0), 0);

        Sentence.of(TERMS, "The holding end of a pager is the end of its last hand-on; ");
        BrigadePagers u = handed();
        Check.due("holdingEnd(0) with three", u.holdingEnd(0), 500);
        u.pass(500);
        Check.due("holdingEnd(0) with one", u.holdingEnd(0), 600);
        Sentence.of(TERMS, "without a hand-on, the end of the present turn.");
        Check.due("holdingEnd(0) at first", Check.brigade(TEXT).holdingEnd(0), 600);
        u.pass(99);
        u.giveBack(0);
        Check.due("holdingEnd(0) at 599", u.holdingEnd(0), 600);
        u.pass(1);
        Check.due("holdingEnd(0) at 600", u.holdingEnd(0), 1200);
    }

    private static BrigadePagers passed(BrigadePagers x, int minutes) {
        x.pass(minutes);
        return x;
    }

    // ---- what stands against a hand-on

    private static void why(BrigadePagers x, int pager, int person, int until, int reason) {
        Check.due("whyNotHandOn(" + pager + ", " + person + ", " + until + ") at " + x.time(),
                x.whyNotHandOn(pager, person, until), reason);
    }

    private static void firstFourReasons() {
        Sentence.of(TERMS, "1 the holder is out");
        BrigadePagers x = at(100, TEXT);
        why(x, 0, 2, 600, 0);
        x.call(0);
        why(x, 0, 2, 600, 1);
        x.pass(2);
        why(x, 0, 2, 600, 1);
        x.pass(1);
        why(x, 0, 2, 600, 0);
        // The owner is out, but not the holder.
        x.handOn(0, 1, 600);
        x.call(0);
        why(x, 0, 2, 600, 0);

        Sentence.of(TERMS, "2 the person is in the chain of the pager already");
        BrigadePagers y = Check.brigade(TEXT);
        why(y, 0, 0, 600, 2);
        y.handOn(0, 1, 600);
        y.handOn(0, 2, 600);
        for (int person = 0; person < 3; person++) {
            why(y, 0, person, 600, 2);
        }
        why(y, 0, 3, 600, 0);
        y.giveBack(0);
        why(y, 0, 2, 600, 0);

        Sentence.of(TERMS, "3 the person is excused");
        y.excuse(2, true);
        why(y, 0, 2, 600, 3);
        why(y, 0, 3, 600, 0);
        y.excuse(2, false);
        why(y, 0, 2, 600, 0);

        Sentence.of(TERMS, "4 the person is out");
        BrigadePagers z = at(600, TEXT);
        z.call(1);
        why(z, 0, 1, 1200, 4);
        z.pass(9);
        why(z, 0, 1, 1200, 4);
        z.pass(1);
        why(z, 0, 1, 1200, 0);
    }

    private static void lastFourReasons() {
        Sentence.of(TERMS, "5 the person is tired");
        BrigadePagers x = Check.brigade(TEXT);
        x.call(1);
        x.pass(10);
        why(x, 0, 1, 600, 5);
        x.pass(5);
        Check.due("lostSleep(1)", x.lostSleep(1), 5);
        why(x, 0, 1, 600, 5);
        x.pass(1);
        why(x, 0, 1, 600, 0);

        Sentence.of(TERMS, "6 someone in the chain of the pager trusts the person less than the demand of the pager");
        BrigadePagers y = Check.brigade(TEXT);
        y.handOn(0, 1, 600);
        y.handOn(0, 2, 600);
        for (int one = 0; one < 3; one++) {
            int[] reasons = {6, 6, 6, 6, 6, 0, 0, 0, 0, 0};
            for (int level = 0; level <= 9; level++) {
                y.setTrust(one, 3, level);
                why(y, 0, 3, 600, reasons[level]);
            }
        }
        y.setTrust(4, 3, 0);
        y.setTrust(3, 0, 0);
        why(y, 0, 3, 600, 0);
        why(y, 1, 4, 600, 0);
        BrigadePagers strict = Check.brigade(TEXT.replace("p 5", "p 9").replace("a b 5", "a b 9").replace("a c 5", "a c 8"));
        why(strict, 0, 1, 600, 0);
        why(strict, 0, 2, 600, 6);

        Sentence.of(TERMS, "7 the pager has 3 hand-ons already");
        BrigadePagers z = handed();
        why(z, 0, 4, 500, 7);
        z.giveBack(0);
        why(z, 0, 4, 500, 0);
        z.handOn(0, 3, 500);
        Check.passTo(z, 499);
        why(z, 0, 4, 500, 7);
        z.pass(1);
        why(z, 0, 4, 600, 0);

        Sentence.of(TERMS, "8 the time is not later than the present time, or later than the holding end of the pager");
        BrigadePagers u = at(100, TEXT);
        int[][] due = {{100, 8}, {101, 0}, {600, 0}, {601, 8}, {99, 8}, {0, 8}, {-1, 8}, {20160, 8}, {Integer.MIN_VALUE, 8},
            {Integer.MAX_VALUE, 8}};
        for (int[] row : due) {
            why(u, 0, 1, row[0], row[1]);
        }
        u.handOn(0, 1, 300);
        why(u, 0, 2, 300, 0);
        why(u, 0, 2, 301, 8);
        BrigadePagers last = at(599, TEXT);
        why(last, 0, 1, 599, 8);
        why(last, 0, 1, 600, 0);
    }

    /** All that can stand against a hand-on does; then the first reason after the other is taken away. */
    private static void everyReasonAtOnce() {
        Sentence.of(TERMS, "A pager cannot be handed on to a person, up to a time, for the first of these reasons that applies:");
        BrigadePagers x = Check.brigade("night 0 23 0 5;" + FIVE + "pager p 5 10 a;pager q 0 10 e;pager r 0 10 a;engine f 0 any;"
                + "engine g 0 any;engine h 0 any;kind k 30 240 1:p:f;kind l 100 240 1:q:g;kind m 500 240 1:r:h;");
        x.handOn(0, 1, 600);
        x.handOn(0, 2, 600);
        x.handOn(0, 3, 600);
        x.call(1);
        x.call(2);
        x.pass(10);
        x.call(0);
        x.excuse(0, true);
        x.excuse(4, true);
        why(x, 0, 0, 601, 1);
        why(x, 0, 4, 601, 1);
        x.pass(30);
        why(x, 0, 0, 601, 2);
        why(x, 0, 4, 601, 3);
        x.excuse(4, false);
        why(x, 0, 4, 601, 4);
        Check.passTo(x, 100);
        why(x, 0, 4, 601, 5);
        Check.passTo(x, 195);
        why(x, 0, 4, 601, 5);
        x.pass(1);
        why(x, 0, 4, 601, 6);
        for (int person = 0; person < 4; person++) {
            x.setTrust(person, 4, 5);
        }
        why(x, 0, 4, 601, 7);
        x.giveBack(0);
        why(x, 0, 4, 601, 8);
        why(x, 0, 4, 196, 8);
        why(x, 0, 4, 600, 0);
        why(x, 0, 4, 197, 0);
    }

    // ---- promises 19 to 26

    private static void chainHandOnsRotation() {
        Sentence.of(19, "`index`: 0 for the owner, then those to whom it was handed on, in order");
        for (int index = 0; index < 4; index++) {
            Check.due("chain(0, " + index + ")", handed().chain(0, index), index);
        }
        Sentence.of(19, "Throws `IndexOutOfBoundsException` if there is no such pager, or the chain has no such person");
        for (int index : new int[] {-1, 4, 5, Integer.MIN_VALUE, Integer.MAX_VALUE}) {
            Refusal.due("chain(0, " + index + ")", NO_INDEX, () -> handed(), x -> x.chain(0, index));
        }
        Refusal.due("chain(0, 1) without a hand-on", NO_INDEX, () -> Check.brigade(TEXT), x -> x.chain(0, 1));
        Refusal.due("chain(0, 2) when two are over", NO_INDEX, () -> passed(handed(), 500), x -> x.chain(0, 2));
        Refusal.due("chain(0, 1) when all are over", NO_INDEX, () -> passed(handed(), 600), x -> x.chain(0, 1));
        Sentence.of(20, "Returns 0 to 3.");
        BrigadePagers x = Check.brigade(TEXT);
        for (int handOns = 0; handOns <= 3; handOns++) {
            Check.due("handOns(0)", x.handOns(0), handOns);
            Check.due("handOns(1)", x.handOns(1), 0);
            if (handOns < 3) {
                x.handOn(0, handOns + 1, 600);
            }
        }
        Sentence.of(22, "Throws `IndexOutOfBoundsException` if there is no such pager or place");
        BrigadePagers full = Scenes.full();
        for (int place = 0; place < 8; place++) {
            Check.due("rotation(5, " + place + ")", full.rotation(5, place), (10 + place) % 12);
        }
        for (int place : new int[] {-1, 8, Integer.MIN_VALUE, Integer.MAX_VALUE}) {
            Check.refused("rotation(5, " + place + ")", NO_INDEX, () -> full.rotation(5, place));
        }
        Check.due("rotation(0, 3)", Scenes.busy().rotation(0, 3), 0);
        Check.due("rotation(1, 0)", Scenes.busy().rotation(1, 0), 1);
        for (int place : new int[] {-1, 4, 8, Integer.MIN_VALUE, Integer.MAX_VALUE}) {
            Refusal.due("rotation(0, " + place + ")", NO_INDEX, () -> Scenes.busy(), y -> y.rotation(0, place));
        }
        Refusal.due("rotation(1, 1), of one place", NO_INDEX, () -> Scenes.busy(), y -> y.rotation(1, 1));
    }

    private static void holderAt() {
        Sentence.of(23, "Returns the person who will be the holder of a pager at a time if nothing else happens.");
        BrigadePagers x = Check.brigade(TEXT.replace("p 5 10 a", "p 5 10 a e"));
        x.handOn(0, 1, 600);
        x.handOn(0, 2, 500);
        int[][] due = {{0, 2}, {499, 2}, {500, 1}, {599, 1}, {600, 4}, {1199, 4}, {1200, 0}, {1799, 0}, {1800, 4}, {20160, 4}};
        for (int[] row : due) {
            Check.due("holderAt(0, " + row[0] + ")", x.holderAt(0, row[0]), row[1]);
        }
        Sentence.of(23, "`time`: the present time to 20160");
        Check.due("holderAt(0, 620) at 620", Scenes.busy().holderAt(0, 620), 2);
        Check.due("holderAt(0, 20160) at 620", Scenes.busy().holderAt(0, 20160), 0);
        Check.due("holderAt(0, 20160) at 20160", at(20160, TEXT).holderAt(0, 20160), 0);
        Sentence.of(23, "Throws `IllegalArgumentException` if time is out of range");
        for (int time : new int[] {619, 0, -1, 20161, Integer.MIN_VALUE, Integer.MAX_VALUE}) {
            Refusal.due("holderAt(0, " + time + ")", NO_ARGUMENT, () -> Scenes.busy(), y -> y.holderAt(0, time));
        }
        Refusal.due("holderAt(0, 20159) at 20160", NO_ARGUMENT, () -> at(20160, TEXT), y -> y.holderAt(0, 20159));
        Refusal.due("holderAt(0, 20161) at 20160", NO_ARGUMENT, () -> at(20160, TEXT), y -> y.holderAt(0, 20161));
        Refusal.due("holderAt(0, -1) at 0", NO_ARGUMENT, () -> Check.brigade(TEXT), y -> y.holderAt(0, -1));
    }

    private static void dutyMinutes() {
        Sentence.of(24, "Counts the minutes, of those that begin at the present time or later, in which a person will hold "
                + "at least one pager if nothing else happens.");
        BrigadePagers x = handed();
        int[][] due = {{0, 1440, 1440}, {1, 1440, 1440}, {2, 1440, 0}, {3, 500, 500}, {3, 501, 500}, {3, 499, 499}, {3, 1, 1},
            {4, 1440, 0}, {2, 1, 0}};
        for (int[] row : due) {
            Check.due("dutyMinutes(" + row[0] + ", " + row[1] + ")", x.dutyMinutes(row[0], row[1]), row[2]);
        }
        BrigadePagers y = Check.brigade(Scenes.NIGHT + "person a 1;person b 1;pager p 0 1 a b;pager q 0 1 b a;pager r 0 1 a b;");
        Check.due("dutyMinutes with two pagers at once", y.dutyMinutes(0, 60), 60);
        Check.due("dutyMinutes of one after the other", y.dutyMinutes(0, 1440), 1440);
        BrigadePagers z = at(59, Scenes.NIGHT + "person a 1;person b 1;pager p 0 1 a b;");
        int[][] next = {{0, 1, 1}, {0, 2, 1}, {0, 61, 1}, {0, 62, 2}, {1, 1, 0}, {1, 2, 1}, {1, 61, 60}, {1, 62, 60}};
        for (int[] row : next) {
            Check.due("dutyMinutes(" + row[0] + ", " + row[1] + ") at 59", z.dutyMinutes(row[0], row[1]), row[2]);
        }
        Check.due("dutyMinutes without a pager", Check.brigade("night 1 2 3 4;person a 1;").dutyMinutes(0, 1440), 0);
        Sentence.of(24, "`minutes`: how many minutes are looked at, 1 to 1440 (also beyond the time 20160)");
        BrigadePagers last = at(20160, Scenes.NIGHT + "person a 1;person b 1;pager p 0 7 a b;");
        Check.due("dutyMinutes(0, 1) at the last time", last.dutyMinutes(0, 1), 1);
        Check.due("dutyMinutes(0, 420) at the last time", last.dutyMinutes(0, 420), 420);
        Check.due("dutyMinutes(0, 1440) at the last time", last.dutyMinutes(0, 1440), 840);
        Check.due("dutyMinutes(1, 1440) at the last time", last.dutyMinutes(1, 1440), 600);
        Sentence.of(24, "Throws `IllegalArgumentException` if minutes is out of range");
        for (int minutes : new int[] {0, -1, 1441, Integer.MIN_VALUE, Integer.MAX_VALUE}) {
            Refusal.due("dutyMinutes(0, " + minutes + ")", NO_ARGUMENT, () -> Scenes.busy(), b -> b.dutyMinutes(0, minutes));
        }
    }

    private static void whyNotHandOn() {
        Sentence.of(25, "Returns the reason, 1 to 8; 0 if it can be handed on.");
        BrigadePagers x = Check.brigade(TEXT);
        why(x, 0, 1, 600, 0);
        Check.due("handOn(0, 1, 600)", x.handOn(0, 1, 600), 1);
        x.call(1);
        why(x, 0, 2, 600, 1);
        why(Check.brigade(TEXT), 0, 1, 601, 8);
    }

    private static void noSteps(Refusal.Scene scene, int pager, int person) {
        Refusal.due("steps(" + pager + ", " + person + ")", NONE_SUCH, scene, x -> x.steps(pager, person));
    }

    private static void steps() {
        Sentence.of(26, "Returns the fewest hand-ons by which a pager can come to a person at the present time, one after the other, "
                + "each up to the holding end of the pager, and each possible as the chain is then.");
        BrigadePagers x = Check.brigade(TEXT);
        for (int person = 1; person < 5; person++) {
            Check.due("steps(0, " + person + ") at first", x.steps(0, person), 1);
        }
        x.handOn(0, 1, 600);
        x.handOn(0, 2, 500);
        Check.due("steps(0, 3) with two hand-ons", x.steps(0, 3), 1);
        x.setTrust(0, 3, 4);
        x.setTrust(4, 3, 9);
        Check.due("steps(0, 4)", x.steps(0, 4), 1);
        Check.refused("steps(0, 3), whom the owner does not trust, by e", NONE_SUCH, () -> x.steps(0, 3));
        Sentence.of(26, "Returns the number of hand-ons; 0 if the person is the holder.");
        Check.due("steps to the owner who holds it", Check.brigade(TEXT).steps(0, 0), 0);
        Check.due("steps to the third", handed().steps(0, 3), 0);
        BrigadePagers away = Check.brigade(TEXT);
        away.call(1);
        away.excuse(1, true);
        Check.due("steps to a holder who is out and excused", away.steps(1, 1), 0);
        Sentence.of(26, "Throws `NoSuchElementException` if it cannot come to the person so "
                + "(as when the person is in the chain, but not the holder)");
        for (int person = 0; person < 3; person++) {
            noSteps(() -> handed(), 0, person);
        }
        noSteps(() -> handed(), 0, 4);
        noSteps(() -> Scenes.busy(), 0, 0);
        noSteps(() -> Scenes.busy(), 1, 2);
        noSteps(() -> {
            BrigadePagers y = Check.brigade(TEXT);
            y.excuse(4, true);
            return y;
        }, 0, 4);
        noSteps(() -> {
            BrigadePagers y = Check.brigade(TEXT);
            y.setTrust(0, 4, 4);
            return y;
        }, 0, 4);
    }
}
