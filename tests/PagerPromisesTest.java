import java.util.NoSuchElementException;

/** Promises 19 to 26: chains, holding ends, rotations, duty, and what stands against a hand-on. */
public final class PagerPromisesTest {
    private static final String TEXT = "night 22 6 5 240;person a 4;person b 5;person c 6;person d 7;person e 8;person f 9;"
            + "trust a b 5;trust a c 5;trust b c 5;trust a d 5;trust b d 5;trust c d 5;"
            + "trust a e 5;trust b e 5;trust c e 5;trust d e 5;trust a f 4;"
            + "pager p 5 10 a f a a;pager q 0 1 f;engine g 5 any;kind k 50 240 1:q:g;";
    private static final int[] NO_PAGERS = {-1, 2, 6, Integer.MIN_VALUE, Integer.MAX_VALUE};
    private static final int[] NO_PERSONS = {-1, 6, 12, Integer.MIN_VALUE, Integer.MAX_VALUE};
    private static final Class<IndexOutOfBoundsException> NO_INDEX = IndexOutOfBoundsException.class;
    private static final Class<IllegalArgumentException> NO_ARGUMENT = IllegalArgumentException.class;

    public static void main(String[] args) {
        chain();
        handOns();
        holdingEnd();
        rotation();
        holderAt();
        dutyMinutes();
        whyNotHandOn();
        whyNotHandOnTired();
        firstReason();
        steps();
        Check.end();
    }

    /** Pager p is handed on from a to b, c and d. */
    private static BrigadePagers handed() {
        BrigadePagers x = Check.brigade(TEXT);
        x.handOn(0, 1, 600);
        x.handOn(0, 2, 500);
        x.handOn(0, 3, 500);
        return x;
    }

    private static void chainIs(BrigadePagers x, int pager, int... persons) {
        for (int index = 0; index < persons.length; index++) {
            Check.due("chain(" + pager + ", " + index + ") at " + x.time(), x.chain(pager, index), persons[index]);
        }
        for (int index : new int[] {-1, persons.length, 4, Integer.MIN_VALUE, Integer.MAX_VALUE}) {
            Check.refusedUnchanged("chain of " + index, NO_INDEX, x, () -> x.chain(pager, index));
        }
        Check.due("handOns(" + pager + ") at " + x.time(), x.handOns(pager), persons.length - 1);
    }

    private static void chain() {
        Check.part("promise 19");
        BrigadePagers x = Check.brigade(TEXT);
        chainIs(x, 0, 0);
        chainIs(x, 1, 5);
        x.handOn(0, 1, 600);
        chainIs(x, 0, 0, 1);
        x.handOn(0, 2, 500);
        x.handOn(0, 3, 500);
        chainIs(x, 0, 0, 1, 2, 3);
        chainIs(x, 1, 5);
        Check.passTo(x, 499);
        chainIs(x, 0, 0, 1, 2, 3);
        x.pass(1);
        chainIs(x, 0, 0, 1);
        x.giveBack(0);
        chainIs(x, 0, 0);
        Check.passTo(x, 600);
        chainIs(x, 0, 5);
        Check.passTo(x, 1200);
        x.handOn(0, 1, 1800);
        chainIs(x, 0, 0, 1);
        Check.passTo(x, 1799);
        chainIs(x, 0, 0, 1);
        x.pass(1);
        chainIs(x, 0, 0);
        Check.passTo(x, 3000);
        chainIs(x, 0, 5);
        for (int pager : NO_PAGERS) {
            Check.refusedUnchanged("chain(" + pager + ", 0)", NO_INDEX, x, () -> x.chain(pager, 0));
        }
    }

    private static void handOns() {
        Check.part("promise 20");
        BrigadePagers x = handed();
        Check.due("handOns(0)", x.handOns(0), 3);
        Check.due("handOns(1)", x.handOns(1), 0);
        x.pass(500);
        Check.due("handOns(0) at 500", x.handOns(0), 1);
        x.pass(99);
        Check.due("handOns(0) at 599", x.handOns(0), 1);
        x.pass(1);
        Check.due("handOns(0) at 600", x.handOns(0), 0);
        for (int pager : NO_PAGERS) {
            Check.refusedUnchanged("handOns(" + pager + ")", NO_INDEX, x, () -> x.handOns(pager));
        }
    }

    private static void holdingEnd() {
        Check.part("promise 21");
        BrigadePagers x = Check.brigade(TEXT);
        Check.due("holdingEnd(0) of a turn", x.holdingEnd(0), 600);
        Check.due("holdingEnd(1) of a turn", x.holdingEnd(1), 60);
        x.handOn(0, 1, 600);
        Check.due("holdingEnd(0)", x.holdingEnd(0), 600);
        x.handOn(0, 2, 500);
        Check.due("holdingEnd(0)", x.holdingEnd(0), 500);
        x.handOn(0, 3, 300);
        Check.due("holdingEnd(0)", x.holdingEnd(0), 300);
        x.pass(299);
        Check.due("holdingEnd(0) at 299", x.holdingEnd(0), 300);
        Check.due("holdingEnd(1) at 299", x.holdingEnd(1), 300);
        x.pass(1);
        Check.due("holdingEnd(0) at 300", x.holdingEnd(0), 500);
        Check.due("holdingEnd(1) at 300", x.holdingEnd(1), 360);
        x.giveBack(0);
        x.giveBack(0);
        Check.due("holdingEnd(0) without hand-ons", x.holdingEnd(0), 600);
        Check.passTo(x, 600);
        Check.due("holdingEnd(0) at 600", x.holdingEnd(0), 1200);
        Check.passTo(x, 20160);
        Check.due("holdingEnd(0) beyond the last time", x.holdingEnd(0), 20400);
        Check.due("holdingEnd(1) beyond the last time", x.holdingEnd(1), 20220);
        for (int pager : NO_PAGERS) {
            Check.refusedUnchanged("holdingEnd(" + pager + ")", NO_INDEX, x, () -> x.holdingEnd(pager));
        }
    }

    private static void rotation() {
        Check.part("promise 22");
        BrigadePagers x = handed();
        int[] due = {0, 5, 0, 0};
        for (int place = 0; place < 4; place++) {
            Check.due("rotation(0, " + place + ")", x.rotation(0, place), due[place]);
        }
        Check.due("rotation(1, 0)", x.rotation(1, 0), 5);
        Check.passTo(x, 700);
        Check.due("rotation(0, 0) in turn 1", x.rotation(0, 0), 0);
        Check.due("rotation(0, 1) in turn 1", x.rotation(0, 1), 5);
        Check.refusedUnchanged("rotation(1, 1)", NO_INDEX, x, () -> x.rotation(1, 1));
        for (int place : new int[] {-1, 4, 8, Integer.MIN_VALUE, Integer.MAX_VALUE}) {
            Check.refusedUnchanged("rotation(0, " + place + ")", NO_INDEX, x, () -> x.rotation(0, place));
        }
        for (int pager : NO_PAGERS) {
            Check.refusedUnchanged("rotation(" + pager + ", 0)", NO_INDEX, x, () -> x.rotation(pager, 0));
        }
    }

    private static void holderAt() {
        Check.part("promise 23");
        BrigadePagers x = Check.brigade(TEXT);
        x.handOn(0, 1, 600);
        x.handOn(0, 2, 500);
        x.handOn(0, 3, 400);
        int[][] due = {{0, 3}, {399, 3}, {400, 2}, {499, 2}, {500, 1}, {599, 1}, {600, 5}, {1199, 5}, {1200, 0}, {1800, 0},
            {2400, 0}, {2999, 0}, {3000, 5}, {3599, 5}, {3600, 0}, {20160, 5}};
        for (int[] row : due) {
            Check.due("holderAt(0, " + row[0] + ")", x.holderAt(0, row[0]), row[1]);
        }
        Check.due("holderAt(1, 20160)", x.holderAt(1, 20160), 5);
        x.pass(450);
        Check.due("holderAt(0, 450)", x.holderAt(0, 450), 2);
        for (int time : new int[] {449, 0, -1, 20161, Integer.MIN_VALUE, Integer.MAX_VALUE}) {
            Check.refusedUnchanged("holderAt(0, " + time + ")", NO_ARGUMENT, x, () -> x.holderAt(0, time));
        }
        for (int pager : NO_PAGERS) {
            Check.refusedUnchanged("holderAt(" + pager + ", 450)", NO_INDEX, x, () -> x.holderAt(pager, 450));
            Check.refusedUnchanged("holderAt(" + pager + ", 449)", NO_INDEX, x, () -> x.holderAt(pager, 449));
        }
    }

    private static void dutyMinutes() {
        Check.part("promise 24");
        BrigadePagers x = handed();
        int[][] due = {{1, 1440, 100}, {1, 500, 0}, {1, 501, 1}, {1, 600, 100}, {1, 601, 100}, {3, 1440, 500}, {3, 1, 1},
            {3, 499, 499}, {2, 1440, 0}, {0, 1440, 240}, {0, 1200, 0}, {0, 1201, 1}, {5, 1440, 1440}, {5, 1, 1}, {4, 1440, 0}};
        for (int[] row : due) {
            Check.due("dutyMinutes(" + row[0] + ", " + row[1] + ")", x.dutyMinutes(row[0], row[1]), row[2]);
        }
        x.handOn(1, 3, 60);
        Check.due("dutyMinutes(3, 1440) with two pagers", x.dutyMinutes(3, 1440), 500);
        Check.due("dutyMinutes(5, 1440) from the next turn on", x.dutyMinutes(5, 1440), 1380);
        x.pass(30);
        Check.due("dutyMinutes(5, 30) at 30", x.dutyMinutes(5, 30), 0);
        Check.due("dutyMinutes(5, 31) at 30", x.dutyMinutes(5, 31), 1);
        x.handOn(1, 4, 40);
        Check.due("dutyMinutes(4, 1440) at 30", x.dutyMinutes(4, 1440), 10);
        Check.passTo(x, 20160);
        Check.due("dutyMinutes(0, 1440) at the last time", x.dutyMinutes(0, 1440), 1200);
        Check.due("dutyMinutes(0, 240) at the last time", x.dutyMinutes(0, 240), 0);
        for (int minutes : new int[] {0, -1, 1441, Integer.MIN_VALUE, Integer.MAX_VALUE}) {
            Check.refusedUnchanged("dutyMinutes(0, " + minutes + ")", NO_ARGUMENT, x, () -> x.dutyMinutes(0, minutes));
        }
        for (int person : NO_PERSONS) {
            Check.refusedUnchanged("no such person", NO_INDEX, x, () -> x.dutyMinutes(person, 5));
            Check.refusedUnchanged("neither", NO_INDEX, x, () -> x.dutyMinutes(person, 0));
        }
        BrigadePagers y = Check.brigade("night 22 6 5 240;person a 1;");
        Check.due("dutyMinutes(0, 1440) without pagers", y.dutyMinutes(0, 1440), 0);
    }

    private static void why(BrigadePagers x, int pager, int person, int until, int want) {
        Check.due("whyNotHandOn(" + pager + ", " + person + ", " + until + ")", x.whyNotHandOn(pager, person, until), want);
    }

    private static void whyNotHandOn() {
        Check.part("promise 25");
        BrigadePagers x = Check.brigade(TEXT);
        x.pass(10);
        why(x, 0, 1, 600, 0);
        why(x, 0, 1, 11, 0);
        for (int until : new int[] {601, 10, 9, 0, -1, Integer.MIN_VALUE, Integer.MAX_VALUE}) {
            why(x, 0, 1, until, 8);
        }
        why(x, 0, 5, 600, 6);
        why(x, 0, 0, 600, 2);
        x.handOn(0, 1, 500);
        why(x, 0, 2, 500, 0);
        why(x, 0, 2, 501, 8);
        why(x, 0, 0, 500, 2);
        why(x, 0, 1, 500, 2);
        x.setTrust(1, 2, 4);
        why(x, 0, 2, 500, 6);
        x.setTrust(1, 2, 9);
        x.setTrust(0, 2, 4);
        why(x, 0, 2, 500, 6);
        x.setTrust(0, 2, 5);
        x.handOn(0, 2, 500);
        x.handOn(0, 3, 500);
        why(x, 0, 4, 500, 7);
        x.giveBack(0);
        why(x, 0, 4, 500, 0);
        x.excuse(4, true);
        why(x, 0, 4, 500, 3);
        x.excuse(4, false);
        x.call(0);
        why(x, 1, 0, 60, 1);
        why(x, 0, 5, 500, 4);
        for (int pager : NO_PAGERS) {
            Check.refusedUnchanged("no such pager", NO_INDEX, x, () -> x.whyNotHandOn(pager, 0, 100));
            Check.refusedUnchanged("neither", NO_INDEX, x, () -> x.whyNotHandOn(pager, 6, 100));
        }
        for (int person : NO_PERSONS) {
            Check.refusedUnchanged("no such person", NO_INDEX, x, () -> x.whyNotHandOn(0, person, 100));
        }
    }

    private static final String TIRING = "night 22 6 5 9;person a 4;person b 5;person c 0;trust a b 5;trust a c 5;"
            + "pager p 5 10 a;pager q 0 10 b;engine g 5 any;kind k 50 240 1:q:g;";

    private static void whyNotHandOnTired() {
        Check.part("promise 25, tired");
        BrigadePagers x = Check.brigade(TIRING);
        x.call(0);
        x.pass(69);
        why(x, 0, 1, 600, 4);
        x.pass(1);
        Check.due("lostSleep(1)", x.lostSleep(1), 70);
        Check.due("outUntil(1)", x.outUntil(1), BrigadePagers.NONE);
        why(x, 0, 1, 600, 5);
        x.setTrust(0, 1, 0);
        why(x, 0, 1, 600, 5);
        x.excuse(1, true);
        why(x, 0, 1, 600, 3);
        x.excuse(1, false);
        x.setTrust(0, 1, 5);
        x.pass(61);
        Check.due("lostSleep(1)", x.lostSleep(1), 9);
        why(x, 0, 1, 600, 5);
        x.pass(1);
        why(x, 0, 1, 600, 0);
        x.undo();
        // That the holder is tired does not matter.
        why(x, 1, 2, 600, 0);
    }

    /** Of two reasons that apply the first one is due, pair by pair as far as two can apply. */
    private static void firstReason() {
        Check.part("promise 25, first reason");
        BrigadePagers x = Check.brigade(TEXT);
        x.handOn(1, 0, 60);
        x.excuse(5, true);
        why(x, 1, 5, 61, 2);
        why(x, 0, 5, 601, 3);
        x.excuse(5, false);
        x.giveBack(1);
        x.call(0);
        why(x, 0, 5, 601, 4);
        x.excuse(5, true);
        why(x, 0, 5, 601, 3);
        why(x, 1, 5, 61, 1);
        x.excuse(0, true);
        why(x, 1, 0, 61, 1);
        why(x, 0, 0, 601, 2);
        BrigadePagers y = handed();
        why(y, 0, 3, 501, 2);
        why(y, 0, 5, 501, 6);
        why(y, 0, 4, 501, 7);
        y.excuse(4, true);
        why(y, 0, 4, 501, 3);
        y.call(0);
        why(y, 0, 5, 501, 4);
    }

    private static void noSteps(BrigadePagers x, int pager, int person) {
        Check.refusedUnchanged("steps(" + pager + ", " + person + ")", NoSuchElementException.class, x,
                () -> x.steps(pager, person));
    }

    private static void steps() {
        Check.part("promise 26");
        BrigadePagers x = Check.brigade(TEXT);
        Check.due("steps to the owner", x.steps(0, 0), 0);
        for (int person = 1; person < 5; person++) {
            Check.due("steps to one who is trusted", x.steps(0, person), 1);
        }
        noSteps(x, 0, 5);
        // e trusts f, but a does not, so there is no way by e either.
        x.setTrust(4, 5, 9);
        noSteps(x, 0, 5);
        x.setTrust(0, 5, 5);
        Check.due("steps to f", x.steps(0, 5), 1);
        x.handOn(0, 1, 500);
        Check.due("steps to the holder", x.steps(0, 1), 0);
        noSteps(x, 0, 0);
        Check.due("steps to c", x.steps(0, 2), 1);
        x.handOn(0, 2, 500);
        Check.due("steps to d", x.steps(0, 3), 1);
        x.handOn(0, 3, 500);
        Check.due("steps to the last holder", x.steps(0, 3), 0);
        noSteps(x, 0, 4);
        noSteps(x, 0, 2);
        x.excuse(3, true);
        Check.due("steps to an excused holder", x.steps(0, 3), 0);
        Check.due("steps of q to an unexcused one", x.steps(1, 4), 1);
        noSteps(x, 1, 3);
        x.call(0);
        Check.due("steps to a holder who is out", x.steps(1, 5), 0);
        noSteps(x, 1, 4);
        for (int pager : NO_PAGERS) {
            Check.refusedUnchanged("no such pager", NO_INDEX, x, () -> x.steps(pager, 0));
        }
        for (int person : NO_PERSONS) {
            Check.refusedUnchanged("no such person", NO_INDEX, x, () -> x.steps(0, person));
        }
        Check.refusedUnchanged("neither", NO_INDEX, x, () -> x.steps(2, 6));
    }
}
