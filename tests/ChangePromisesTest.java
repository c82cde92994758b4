import java.util.NoSuchElementException;

/** Promises 46 to 56: the changes, undo(), save() and restore(). */
public final class ChangePromisesTest {
    private static final String NIGHT = "night 22 6 5 240;";
    private static final String TEXT = NIGHT + "person a 4 driver;person b 6;person c 3 medic;person d 10;"
            + "trust a b 7;trust b c 2;trust a c 9;trust c a 8;trust c d 1;"
            + "pager p 0 20 a b c a;pager q 0 24 b;pager r 0 24 c;pager s 0 24 d;pager t 0 20 a;"
            + "engine g 10 driver any;engine h 20 medic;"
            + "kind k 30 240 1:p q r:g;kind l 30 5 2:r q s:h g;kind m 9 0 1:r q p:h;kind n 9 240 1:s t p:h;";
    private static final Class<IndexOutOfBoundsException> NO_INDEX = IndexOutOfBoundsException.class;
    private static final Class<IllegalArgumentException> NO_ARGUMENT = IllegalArgumentException.class;
    private static final Class<IllegalStateException> NO_STATE = IllegalStateException.class;
    private static final Class<NoSuchElementException> NONE_SUCH = NoSuchElementException.class;

    interface Scene {
        BrigadePagers make();
    }

    interface Act {
        void on(BrigadePagers x);
    }

    public static void main(String[] args) {
        call();
        callByNight();
        callHome();
        callTrust();
        sixteenCalls();
        handOn();
        giveBack();
        pass();
        passTrust();
        swapPlaces();
        excuse();
        setService();
        setTrust();
        undo();
        undoEach();
        undoKept();
        save();
        restore();
        restoreOther();
        Check.end();
    }

    private static BrigadePagers byDay() {
        BrigadePagers x = Check.brigade(TEXT);
        x.pass(600);
        return x;
    }

    /** What is refused changes nothing that can be asked or undone: a twin to whom it did not happen tells the same. */
    private static void refused(String what, Class<? extends RuntimeException> want, Scene scene, Act act) {
        BrigadePagers x = scene.make();
        Check.refusedUnchanged(what, want, x, () -> act.on(x));
        Check.due("undoing all after " + what, undoAll(x), undoAll(scene.make()));
    }

    private static String undoAll(BrigadePagers x) {
        StringBuilder told = new StringBuilder();
        try {
            for (int times = 0; times < 100; times++) {
                told.append(x.undo()).append(Snapshot.of(x));
            }
        } catch (IllegalStateException atLast) {
            return told.toString();
        }
        return "undo() has no end";
    }

    private static void call() {
        Check.part("promise 46");
        BrigadePagers x = byDay();
        Check.due("call(0)", x.call(0), 0);
        Check.due("calls", x.count(4), 1);
        int[] until = {654, 612, 654, BrigadePagers.NONE};
        int[] pay = {54, 12, 54, 0};
        for (int person = 0; person < 4; person++) {
            Check.due("outUntil(" + person + ")", x.outUntil(person), until[person]);
            Check.due("pay(" + person + ")", x.pay(person), pay[person]);
        }
        Check.due("returnsAt(0)", x.returnsAt(0), 654);
        Check.due("returnsAt(1)", x.returnsAt(1), BrigadePagers.NONE);
        Check.due("cost(0)", x.cost(0), 170);
        Check.due("isAnswered(0)", x.isAnswered(0), true);
        Check.due("time()", x.time(), 600);
        Check.due("call(1)", x.call(1), 1);
        Check.due("came(1)", x.came(1), 0);
        Check.due("cost(1)", x.cost(1), 0);

        // The engine that can leaves although the call is not answered.
        BrigadePagers y = byDay();
        Check.due("call(1)", y.call(1), 0);
        Check.due("isAnswered(0)", y.isAnswered(0), false);
        Check.due("left(0)", y.left(0), 1);
        Check.due("engine(0, 0)", y.engine(0, 0), 1);
        Check.due("leftAt(0, 0)", y.leftAt(0, 0), 603);
        Check.due("member(0, 0, 0)", y.member(0, 0, 0), 2);
        Check.due("returnsAt(1)", y.returnsAt(1), 673);
        Check.due("returnsAt(0)", y.returnsAt(0), BrigadePagers.NONE);
        Check.due("outUntil(1)", y.outUntil(1), BrigadePagers.NONE);

        for (int kind : new int[] {-1, 4, 6, Integer.MIN_VALUE, Integer.MAX_VALUE}) {
            refused("call(" + kind + ")", NO_INDEX, () -> called(), b -> b.call(kind));
        }
        refused("call(0) of a new object", NO_INDEX, () -> new BrigadePagers(), b -> b.call(0));
    }

    private static BrigadePagers called() {
        BrigadePagers x = byDay();
        x.handOn(3, 1, 700);
        x.call(0);
        return x;
    }

    private static void callByNight() {
        Check.part("promise 46, by night");
        BrigadePagers x = Check.brigade(TEXT);
        x.pass(355);
        x.call(0);
        Check.due("leftAt(0, 0)", x.leftAt(0, 0), 364);
        Check.due("returnsAt(0)", x.returnsAt(0), 414);
        Check.due("outUntil(1)", x.outUntil(1), 372);
        Check.due("pay(0)", x.pay(0), 64);
        Check.due("pay(1)", x.pay(1), 22);
        Check.due("cost(0)", x.cost(0), 64 + 64 + 22 + 50);
    }

    private static BrigadePagers handedTwice() {
        BrigadePagers x = byDay();
        x.handOn(0, 1, 1200);
        x.handOn(0, 2, 1200);
        return x;
    }

    private static void trustIs(String when, BrigadePagers x, int... due) {
        int[][] pairs = {{0, 1}, {1, 2}, {0, 2}, {2, 0}, {2, 3}, {1, 0}, {0, 3}};
        for (int at = 0; at < due.length; at++) {
            Check.due("trust(" + pairs[at][0] + ", " + pairs[at][1] + ") " + when, x.trust(pairs[at][0], pairs[at][1]), due[at]);
        }
    }

    private static void callHome() {
        Check.part("promise 46, those who go home");
        BrigadePagers x = Check.brigade(NIGHT + "person a 9;person b 3;person c 0;pager p 0 24 a;pager q 0 24 b;"
                + "pager r 0 24 c;engine g 0 medic;kind k 30 240 1:p q r:g;");
        x.pass(600);
        x.call(0);
        int[] until = {618, 606, BrigadePagers.NONE};
        for (int person = 0; person < 3; person++) {
            Check.due("outUntil(" + person + ")", x.outUntil(person), until[person]);
        }
        Check.due("cost(0)", x.cost(0), 24);
        Check.due("came(0)", x.came(0), 3);
        Check.due("pass(17)", x.pass(17), 0);
        Check.due("outUntil(0)", x.outUntil(0), 618);
        x.pass(1);
        Check.due("outUntil(0)", x.outUntil(0), BrigadePagers.NONE);
    }

    private static void callTrust() {
        Check.part("promise 46, trust");
        BrigadePagers x = handedTwice();
        x.call(0);
        trustIs("when the holder comes", x, 7, 2, 9, 8, 1, 0, 0);
        x = handedTwice();
        x.excuse(2, true);
        x.call(0);
        trustIs("when the holder is excused", x, 7, 1, 9, 8, 1, 0, 0);
        x = handedTwice();
        x.call(2);
        trustIs("when the holder is late", x, 7, 1, 9, 8, 1, 0, 0);
        x = handedTwice();
        x.excuse(2, true);
        x.call(1);
        trustIs("when the pager is not alerted", x, 7, 2, 9, 8, 1, 0, 0);
        x = handedTwice();
        x.call(1);
        x.call(0);
        trustIs("when the holder is out", x, 7, 1, 9, 8, 1, 0, 0);
        x = handedTwice();
        x.setTrust(1, 2, 0);
        x.call(2);
        trustIs("that is 0 already", x, 7, 0, 9, 8, 1, 0, 0);
        x = byDay();
        x.call(2);
        trustIs("without a hand-on", x, 7, 2, 9, 8, 1, 0, 0);
        x = handedTwice();
        x.call(2);
        x.undo();
        trustIs("after undo()", x, 7, 2, 9, 8, 1, 0, 0);

        // Two pagers come from the same person, the third one from another.
        x = byDay();
        x.handOn(0, 3, 1200);
        x.handOn(4, 3, 1200);
        x.setTrust(0, 3, 2);
        x.excuse(3, true);
        x.call(3);
        Check.due("trust(0, 3) by two pagers", x.trust(0, 3), 0);
        x.undo();
        x.setTrust(0, 3, 1);
        x.call(3);
        Check.due("trust(0, 3) that was 1, by two pagers", x.trust(0, 3), 0);

        BrigadePagers y = Check.brigade("night 22 6 5 5;person a 0;person b 0;trust a b 7;pager p 0 20 a;pager q 0 20 b;"
                + "engine g 0 any;kind k 10 240 1:p:g;kind l 10 240 1:q:g;");
        y.call(1);
        y.pass(15);
        Check.due("lostSleep(1)", y.lostSleep(1), 15);
        y.setTrust(0, 1, 7);
        y.undo();
        y.pass(10);
        Check.due("lostSleep(1)", y.lostSleep(1), 5);
        y.undo();
        y.pass(11);
        y.handOn(0, 1, 500);
        y.call(0);
        Check.due("trust(0, 1) when the holder comes", y.trust(0, 1), 7);
        y.pass(15);
        y.call(0);
        Check.due("trust(0, 1) when the holder is tired", y.trust(0, 1), 6);
    }

    private static BrigadePagers calledSixteenTimes() {
        BrigadePagers x = byDay();
        for (int call = 0; call < 16; call++) {
            Check.due("call(" + call % 4 + ")", x.call(call % 4), call);
        }
        return x;
    }

    private static void sixteenCalls() {
        Check.part("promise 46, sixteen calls");
        BrigadePagers x = calledSixteenTimes();
        Check.due("calls", x.count(4), 16);
        refused("a seventeenth call", NO_STATE, () -> calledSixteenTimes(), b -> b.call(2));
        refused("a seventeenth call of no kind", NO_INDEX, () -> calledSixteenTimes(), b -> b.call(4));
        x.undo();
        x.pass(1440);
        Check.due("the sixteenth call again", x.call(2), 15);
        Check.refused("a seventeenth call", NO_STATE, () -> x.call(2));
        Check.refused("cost(16)", NO_INDEX, () -> x.cost(16));
    }

    private static void handOn() {
        Check.part("promise 47");
        BrigadePagers x = byDay();
        Check.due("handOn(0, 1, 1200)", x.handOn(0, 1, 1200), 1);
        Check.due("handOn(0, 2, 601)", x.handOn(0, 2, 601), 2);
        Check.due("handOn(0, 3, 601)", x.handOn(0, 3, 601), 3);
        Check.due("holder", x.holderAt(0, 600), 3);
        Check.due("holdingEnd(0)", x.holdingEnd(0), 601);
        Check.due("handOns(1)", x.handOns(1), 0);
        x.pass(1);
        Check.due("handOns(0) at 601", x.handOns(0), 1);
        Check.due("handOn(0, 3, 1200)", x.handOn(0, 3, 1200), 2);
        x.pass(599);
        Check.due("holder at 1200", x.holderAt(0, 1200), 1);
        Check.due("handOn(0, 0, 1500)", x.handOn(0, 0, 1500), 1);
        refused("to one in the chain", NO_STATE, () -> handedTwice(), b -> b.handOn(0, 0, 1200));
        refused("to the holder", NO_STATE, () -> handedTwice(), b -> b.handOn(0, 2, 1200));
        refused("too late", NO_STATE, () -> handedTwice(), b -> b.handOn(0, 3, 1201));
        refused("too early", NO_STATE, () -> handedTwice(), b -> b.handOn(0, 3, 600));
        refused("to one who is out", NO_STATE, () -> called(), b -> b.handOn(3, 2, 700));
        refused("by one who is out", NO_STATE, () -> called(), b -> b.handOn(0, 3, 1200));
        for (int pager : new int[] {-1, 5, 6, Integer.MIN_VALUE, Integer.MAX_VALUE}) {
            refused("no such pager", NO_INDEX, () -> handedTwice(), b -> b.handOn(pager, 3, 1200));
        }
        for (int person : new int[] {-1, 4, 12, Integer.MIN_VALUE, Integer.MAX_VALUE}) {
            refused("no such person", NO_INDEX, () -> handedTwice(), b -> b.handOn(0, person, 1200));
            refused("no such person, and too late", NO_INDEX, () -> handedTwice(), b -> b.handOn(0, person, 1201));
        }
    }

    private static void giveBack() {
        Check.part("promise 48");
        BrigadePagers x = handedTwice();
        Check.due("giveBack(0)", x.giveBack(0), 1);
        Check.due("handOns(0)", x.handOns(0), 1);
        Check.due("giveBack(0)", x.giveBack(0), 0);
        Check.due("handOns(0)", x.handOns(0), 0);
        Check.due("handOn(0, 3, 700)", x.handOn(0, 3, 700), 1);
        Check.due("chain(0, 1)", x.chain(0, 1), 3);
        BrigadePagers y = called();
        Check.due("giveBack(3) of one who is out", y.giveBack(3), 3);
        refused("giveBack(1)", NO_STATE, () -> handedTwice(), b -> b.giveBack(1));
        refused("giveBack(0) after the end", NO_STATE, () -> {
            BrigadePagers b = handedTwice();
            b.pass(600);
            return b;
        }, b -> b.giveBack(0));
        for (int pager : new int[] {-1, 5, 6, Integer.MIN_VALUE, Integer.MAX_VALUE}) {
            refused("giveBack(" + pager + ")", NO_INDEX, () -> handedTwice(), b -> b.giveBack(pager));
        }
    }

    private static BrigadePagers late() {
        BrigadePagers x = Check.brigade(TEXT);
        Check.passTo(x, 20000);
        return x;
    }

    private static void pass() {
        Check.part("promise 49");
        BrigadePagers x = byDay();
        x.call(0);
        Check.due("pass(53)", x.pass(53), 0);
        Check.due("pass(1)", x.pass(1), 1);
        Check.due("pass(1) again", x.pass(1), 0);
        x.undo();
        x.undo();
        Check.due("pass(1440)", x.pass(1440), 1);
        x = byDay();
        // Kind l takes h at 603, so c is away when k comes, and g takes b.
        x.call(1);
        x.call(0);
        Check.due("returnsAt(0)", x.returnsAt(0), 656);
        Check.due("returnsAt(1)", x.returnsAt(1), 673);
        Check.due("pass(56) with the first one", x.pass(56), 1);
        Check.due("pass(17) with the second one", x.pass(17), 1);
        x.undo();
        x.undo();
        Check.due("pass(73) with both", x.pass(73), 2);
        BrigadePagers y = late();
        y.call(0);
        Check.due("pass to the last time", y.pass(160), 1);
        Check.due("time()", y.time(), 20160);
        Check.refusedUnchanged("pass(1)", NO_STATE, y, () -> y.pass(1));
        for (int minutes : new int[] {0, -1, 1441, Integer.MIN_VALUE, Integer.MAX_VALUE}) {
            refused("pass(" + minutes + ")", NO_ARGUMENT, () -> late(), b -> b.pass(minutes));
        }
        refused("pass(161)", NO_STATE, () -> late(), b -> b.pass(161));
        refused("pass(1440)", NO_STATE, () -> late(), b -> b.pass(1440));
    }

    private static void passTrust() {
        Check.part("promise 49, trust");
        BrigadePagers x = byDay();
        x.setTrust(2, 0, 9);
        x.setTrust(0, 2, 3);
        x.call(0);
        x.pass(53);
        trustIs("before the return", x, 7, 2, 3, 9, 1, 0, 0);
        x.pass(1);
        trustIs("after the return", x, 7, 2, 4, 9, 1, 0, 0);
        x.pass(1);
        trustIs("later", x, 7, 2, 4, 9, 1, 0, 0);
        x.undo();
        x.undo();
        x.pass(1000);
        trustIs("long after the return", x, 7, 2, 4, 9, 1, 0, 0);
        BrigadePagers y = Check.brigade(NIGHT + "person a 1;person b 1;person c 1;person d 1;trust a b 9;trust c a 8;"
                + "pager p 0 9 a;pager q 0 9 b;pager r 0 9 c;pager s 0 9 d;engine e 5 any any any;"
                + "kind k 5 99 1:p q r s:e;");
        y.call(0);
        y.pass(100);
        int[][] due = {{0, 1, 9}, {1, 0, 1}, {0, 2, 1}, {2, 0, 9}, {1, 2, 1}, {2, 1, 1}, {0, 3, 0}, {3, 0, 0}, {2, 3, 0}};
        for (int[] row : due) {
            Check.due("trust(" + row[0] + ", " + row[1] + ") of three", y.trust(row[0], row[1]), row[2]);
        }
    }

    private static BrigadePagers inTurnOne() {
        BrigadePagers x = Check.brigade(TEXT);
        Check.passTo(x, 1200);
        return x;
    }

    private static void swapPlaces() {
        Check.part("promise 50");
        BrigadePagers x = byDay();
        Check.due("swapPlaces(0, 1, 2)", x.swapPlaces(0, 1, 2), 2);
        Check.due("rotation(0, 1)", x.rotation(0, 1), 2);
        Check.due("rotation(0, 2)", x.rotation(0, 2), 1);
        Check.due("rotation(0, 0)", x.rotation(0, 0), 0);
        Check.due("rotation(0, 3)", x.rotation(0, 3), 0);
        Check.due("holderAt(0, 1200)", x.holderAt(0, 1200), 2);
        Check.due("swapPlaces(0, 3, 1)", x.swapPlaces(0, 3, 1), 2);
        Check.passTo(x, 1200);
        Check.due("chain(0, 0) in turn 1", x.chain(0, 0), 0);
        Check.due("swapPlaces(0, 0, 2) in turn 1", x.swapPlaces(0, 0, 2), 1);
        Check.due("holderAt(0, 4800)", x.holderAt(0, 4800), 1);
        refused("the present place", NO_STATE, () -> inTurnOne(), b -> b.swapPlaces(0, 1, 2));
        refused("the present place as the other", NO_STATE, () -> inTurnOne(), b -> b.swapPlaces(0, 3, 1));
        refused("the same place", NO_ARGUMENT, () -> inTurnOne(), b -> b.swapPlaces(0, 2, 2));
        refused("the same, present place", NO_ARGUMENT, () -> inTurnOne(), b -> b.swapPlaces(0, 1, 1));
        refused("the one place", NO_ARGUMENT, () -> inTurnOne(), b -> b.swapPlaces(1, 0, 0));
        refused("the second of one place", NO_INDEX, () -> inTurnOne(), b -> b.swapPlaces(1, 0, 1));
        for (int place : new int[] {-1, 4, 8, Integer.MIN_VALUE, Integer.MAX_VALUE}) {
            refused("no such place", NO_INDEX, () -> inTurnOne(), b -> b.swapPlaces(0, place, 2));
            refused("no such other place", NO_INDEX, () -> inTurnOne(), b -> b.swapPlaces(0, 2, place));
            refused("the same, and none", NO_INDEX, () -> inTurnOne(), b -> b.swapPlaces(0, place, place));
            refused("none, and present", NO_INDEX, () -> inTurnOne(), b -> b.swapPlaces(0, 1, place));
        }
        for (int pager : new int[] {-1, 5, 6, Integer.MIN_VALUE, Integer.MAX_VALUE}) {
            refused("no such pager", NO_INDEX, () -> inTurnOne(), b -> b.swapPlaces(pager, 2, 3));
            refused("no such pager, the same place", NO_INDEX, () -> inTurnOne(), b -> b.swapPlaces(pager, 2, 2));
        }
    }

    private static void excuse() {
        Check.part("promise 51");
        BrigadePagers x = byDay();
        for (int person = 0; person < 4; person++) {
            Check.due("whyAbsent(0, " + person + ") at first", x.whyAbsent(0, person) == 2, false);
        }
        Check.due("excuse(0, true)", x.excuse(0, true), 1);
        Check.due("excuse(2, true)", x.excuse(2, true), 2);
        Check.due("excuse(2, true) again", x.excuse(2, true), 2);
        Check.due("whyAbsent(0, 0)", x.whyAbsent(0, 0), 2);
        Check.due("whyAbsent(0, 1)", x.whyAbsent(0, 1), 0);
        Check.due("whyAbsent(0, 2)", x.whyAbsent(0, 2), 2);
        Check.due("excuse(0, false)", x.excuse(0, false), 1);
        Check.due("excuse(1, false)", x.excuse(1, false), 1);
        Check.due("whyAbsent(0, 0)", x.whyAbsent(0, 0), 0);
        Check.due("excuse(2, false)", x.excuse(2, false), 0);
        for (int person : new int[] {-1, 4, 12, 32, Integer.MIN_VALUE, Integer.MAX_VALUE}) {
            refused("excuse(" + person + ", true)", NO_INDEX, () -> called(), b -> b.excuse(person, true));
            refused("excuse(" + person + ", false)", NO_INDEX, () -> called(), b -> b.excuse(person, false));
        }
        BrigadePagers y = Check.brigade(NIGHT + "person a 1;person b 1;person c 1;person d 1;person e 1;person f 1;"
                + "person g 1;person h 1;person i 1;person j 1;person k 1;person l 1;");
        for (int person = 11; person >= 0; person--) {
            Check.due("excuse of all, " + person, y.excuse(person, true), 12 - person);
        }
    }

    private static void setService() {
        Check.part("promise 52");
        BrigadePagers x = byDay();
        Check.due("whyStays(0, 0) at first", x.whyStays(0, 0), 0);
        Check.due("setService(1, true)", x.setService(1, true), 2);
        Check.due("setService(0, false)", x.setService(0, false), 1);
        Check.due("setService(0, false) again", x.setService(0, false), 1);
        Check.due("whyStays(0, 0)", x.whyStays(0, 0), 1);
        Check.due("whyStays(1, 0)", x.whyStays(1, 0), 0);
        Check.due("setService(1, false)", x.setService(1, false), 0);
        Check.due("setService(0, true)", x.setService(0, true), 1);
        Check.due("whyStays(0, 0)", x.whyStays(0, 0), 0);
        x.call(0);
        Check.due("setService(1, true) while g is out", x.setService(1, true), 2);
        Check.passTo(x, 654);
        Check.due("setService(0, false) when g is back", x.setService(0, false), 1);
        refused("setService(0, false) while g is out", NO_STATE, () -> called(), b -> b.setService(0, false));
        refused("setService(0, true) while g is out", NO_STATE, () -> called(), b -> b.setService(0, true));
        for (int engine : new int[] {-1, 2, 5, 32, Integer.MIN_VALUE, Integer.MAX_VALUE}) {
            refused("setService(" + engine + ", true)", NO_INDEX, () -> called(), b -> b.setService(engine, true));
        }
    }

    private static void setTrust() {
        Check.part("promise 53");
        BrigadePagers x = byDay();
        Check.due("setTrust(0, 1, 0)", x.setTrust(0, 1, 0), 7);
        Check.due("setTrust(0, 1, 9)", x.setTrust(0, 1, 9), 0);
        Check.due("setTrust(0, 1, 9) again", x.setTrust(0, 1, 9), 9);
        Check.due("setTrust(3, 0, 5)", x.setTrust(3, 0, 5), 0);
        Check.due("trust(3, 0)", x.trust(3, 0), 5);
        Check.due("trust(0, 3)", x.trust(0, 3), 0);
        trustIs("of the others", x, 9, 2, 9, 8, 1, 0, 0);
        for (int person : new int[] {-1, 4, 12, Integer.MIN_VALUE, Integer.MAX_VALUE}) {
            refused("no such person", NO_INDEX, () -> called(), b -> b.setTrust(person, 0, 5));
            refused("no such other", NO_INDEX, () -> called(), b -> b.setTrust(0, person, 5));
            refused("the same, and none", NO_INDEX, () -> called(), b -> b.setTrust(person, person, 5));
            refused("none, and a wrong level", NO_INDEX, () -> called(), b -> b.setTrust(0, person, 10));
        }
        for (int level : new int[] {-1, 10, Integer.MIN_VALUE, Integer.MAX_VALUE}) {
            refused("setTrust(0, 1, " + level + ")", NO_ARGUMENT, () -> called(), b -> b.setTrust(0, 1, level));
            refused("setTrust(1, 1, " + level + ")", NO_ARGUMENT, () -> called(), b -> b.setTrust(1, 1, level));
        }
        refused("setTrust(2, 2, 5)", NO_ARGUMENT, () -> called(), b -> b.setTrust(2, 2, 5));
    }

    private static void undo() {
        Check.part("promise 54");
        BrigadePagers x = Check.brigade(TEXT);
        Check.refusedUnchanged("undo() at first", NO_STATE, x, () -> x.undo());
        x.pass(10);
        x.pass(20);
        x.save(0);
        Check.due("undo()", x.undo(), 1);
        Check.due("time()", x.time(), 10);
        Check.due("undo()", x.undo(), 0);
        Check.due("time()", x.time(), 0);
        Check.refusedUnchanged("undo(), which is no change", NO_STATE, x, () -> x.undo());
        x.pass(7);
        x.pass(8);
        x.undo();
        x.pass(9);
        Check.due("time()", x.time(), 16);
        Check.due("undo()", x.undo(), 1);
        Check.due("time()", x.time(), 7);
        Check.due("undo()", x.undo(), 0);
        Check.refusedUnchanged("undo() of nothing", NO_STATE, x, () -> x.undo());
    }

    private static void undone(String what, Scene scene, Act act) {
        BrigadePagers x = scene.make();
        String before = Snapshot.of(x);
        act.on(x);
        x.undo();
        Check.due("all after undoing " + what, Snapshot.of(x), before);
        Check.due("undoing the rest after " + what, undoAll(x), undoAll(scene.make()));
    }

    private static void undoEach() {
        Check.part("promise 54, each change");
        undone("call", () -> handedTwice(), b -> b.call(0));
        undone("call of nobody", () -> handedTwice(), b -> b.call(2));
        undone("handOn", () -> handedTwice(), b -> b.handOn(0, 3, 800));
        undone("giveBack", () -> handedTwice(), b -> b.giveBack(0));
        undone("pass", () -> called(), b -> b.pass(1440));
        undone("pass to a new turn", () -> handedTwice(), b -> b.pass(600));
        undone("swapPlaces", () -> handedTwice(), b -> b.swapPlaces(0, 1, 2));
        undone("swapPlaces of the same persons", () -> inTurnOne(), b -> b.swapPlaces(0, 0, 3));
        undone("excuse", () -> called(), b -> b.excuse(0, true));
        undone("excuse without need", () -> called(), b -> b.excuse(0, false));
        undone("setService", () -> called(), b -> b.setService(1, false));
        undone("setService without need", () -> called(), b -> b.setService(1, true));
        undone("setTrust", () -> called(), b -> b.setTrust(0, 1, 1));
        undone("setTrust without need", () -> called(), b -> b.setTrust(0, 1, 7));
    }

    private static void undoKept() {
        Check.part("promise 54, ten are kept");
        BrigadePagers x = Check.brigade(TEXT);
        for (int change = 1; change <= 25; change++) {
            x.pass(1);
        }
        for (int left = 9; left >= 0; left--) {
            Check.due("undo()", x.undo(), left);
            Check.due("time()", x.time(), 15 + left);
        }
        Check.refusedUnchanged("undo() of the eleventh", NO_STATE, x, () -> x.undo());
        x.pass(5);
        Check.due("undo()", x.undo(), 0);
        Check.due("time()", x.time(), 15);
    }

    private static void save() {
        Check.part("promise 55");
        BrigadePagers x = called();
        String before = Snapshot.of(x);
        x.save(0);
        Check.due("all after save(0)", Snapshot.of(x), before);
        Check.due("undo() after save(0)", x.undo(), 2);
        x.save(0);
        x.pass(30);
        x.restore(0);
        Check.due("calls after the second save(0)", x.count(4), 0);
        Check.due("time() after the second save(0)", x.time(), 600);
        for (int slot : new int[] {-1, 2, 3, Integer.MIN_VALUE, Integer.MAX_VALUE}) {
            refused("save(" + slot + ")", NO_INDEX, () -> called(), b -> b.save(slot));
        }
        BrigadePagers y = byDay();
        y.save(1);
        Check.refusedUnchanged("restore(0) after save(1)", NONE_SUCH, y, () -> y.restore(0));
    }

    private static BrigadePagers busy() {
        BrigadePagers x = handedTwice();
        x.excuse(3, true);
        x.setTrust(3, 0, 4);
        x.swapPlaces(0, 1, 3);
        x.setService(1, false);
        x.call(0);
        x.pass(20);
        return x;
    }

    private static void disturb(BrigadePagers x) {
        x.pass(50);
        x.excuse(3, false);
        x.excuse(0, true);
        x.setTrust(3, 0, 5);
        x.swapPlaces(0, 2, 3);
        x.setService(1, true);
        x.giveBack(0);
        x.handOn(0, 3, 1000);
        x.call(3);
        x.pass(100);
    }

    private static void restore() {
        Check.part("promise 56");
        BrigadePagers x = busy();
        String first = Snapshot.of(x);
        x.save(0);
        disturb(x);
        String second = Snapshot.of(x);
        Check.due("that something is changed", first.equals(second), false);
        x.save(1);
        x.restore(0);
        Check.due("all after restore(0)", Snapshot.of(x), first);
        Check.refusedUnchanged("undo() after restore(0)", NO_STATE, x, () -> x.undo());
        disturb(x);
        Check.due("all after the same changes", Snapshot.of(x), second);
        x.undo();
        x.restore(0);
        Check.due("all after restore(0) again", Snapshot.of(x), first);
        x.restore(1);
        Check.due("all after restore(1)", Snapshot.of(x), second);
        x.restore(1);
        Check.due("all after restore(1) again", Snapshot.of(x), second);

        // The text buffer and the error are no part of a state.
        Check.put(x, "c");
        x.restore(0);
        Check.due("find(0) of what was in the buffer", x.find(0), 2);
        Check.refused("load() of nothing", NO_ARGUMENT, () -> x.load());
        x.restore(0);
        Check.due("errorCode() after restore(0)", x.errorCode(), 1);
        Check.due("errorPosition() after restore(0)", x.errorPosition(), 0);

        for (int slot : new int[] {-1, 2, 3, Integer.MIN_VALUE, Integer.MAX_VALUE}) {
            refused("restore(" + slot + ")", NO_INDEX, () -> busy(), b -> b.restore(slot));
            refused("restore(" + slot + ") of a new object", NO_INDEX, () -> new BrigadePagers(), b -> b.restore(slot));
        }
        refused("restore(0) of nothing", NONE_SUCH, () -> busy(), b -> b.restore(0));
        refused("restore(1) of nothing", NONE_SUCH, () -> busy(), b -> b.restore(1));
    }

    /** Two ways on from the same begin, of which each has told other things of the same calls. */
    private static void restoreOther() {
        Check.part("promise 56, the other way");
        BrigadePagers x = byDay();
        x.save(0);
        x.call(0);
        x.call(1);
        x.pass(10);
        String one = Snapshot.of(x);
        x.pass(1000);
        String oneLater = Snapshot.of(x);
        x.undo();
        x.save(1);
        x.restore(0);
        x.excuse(2, true);
        x.setTrust(1, 2, 9);
        x.call(3);
        x.pass(20);
        x.call(0);
        String other = Snapshot.of(x);
        x.pass(1000);
        String otherLater = Snapshot.of(x);
        x.undo();
        x.save(0);
        Check.due("that they differ", one.equals(other) || oneLater.equals(otherLater), false);
        for (int times = 0; times < 2; times++) {
            x.restore(1);
            Check.due("all after restore(1)", Snapshot.of(x), one);
            Check.due("pass(1000)", x.pass(1000), 1);
            Check.due("all later", Snapshot.of(x), oneLater);
            x.restore(0);
            Check.due("all after restore(0)", Snapshot.of(x), other);
            Check.due("pass(1000)", x.pass(1000), 1);
            Check.due("all later", Snapshot.of(x), otherLater);
        }
    }
}
