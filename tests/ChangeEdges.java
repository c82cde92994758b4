import java.util.NoSuchElementException;

/** The boundary cases of CHANGES, EXCEPTIONS and the promises 47 to 56. */
final class ChangeEdges {
    private static final int TERMS = Sentence.TERMS;
    private static final Class<IndexOutOfBoundsException> NO_INDEX = IndexOutOfBoundsException.class;
    private static final Class<IllegalArgumentException> NO_ARGUMENT = IllegalArgumentException.class;
    private static final Class<IllegalStateException> NO_STATE = IllegalStateException.class;
    private static final Class<NoSuchElementException> NONE_SUCH = NoSuchElementException.class;
    private static final int[] NO_SLOTS = {-1, 2, 3, Integer.MIN_VALUE, Integer.MAX_VALUE};

    private ChangeEdges() {
    }

    static void run() {
        changes();
        tenAreKept();
        slots();
        everythingIsSaved();
        firstNamedException();
        handOn();
        reasonsAgainstHandOn();
        giveBack();
        pass();
        passTooLong();
        swapPlaces();
        excuseAndService();
        setTrust();
        undo();
        save();
        restore();
        manyCalls();
    }

    private static final String TEXT = Scenes.TEXT.replace("a b c a", "a b b c").replace("q 0 24 b", "q 0 24 c");

    /** At 620: b got pager p from a, c is out with engine h until 673, a is excused. Five changes can be undone. */
    private static BrigadePagers ready() {
        BrigadePagers x = Scenes.byDay(TEXT);
        x.save(0);
        x.excuse(0, true);
        x.handOn(0, 1, 700);
        x.call(0);
        x.pass(20);
        x.save(1);
        Check.put(x, "c");
        return x;
    }

    // ---- CHANGES

    private static void isChange(String what, Refusal.Act act, boolean isSeen) {
        String before = Snapshot.of(ready());
        BrigadePagers changed = ready();
        act.on(changed);
        Check.due("that " + what + " can be seen", !Snapshot.of(changed).equals(before), isSeen);
        // Nothing is asked before undo(), so that no answer can have prepared it.
        BrigadePagers x = ready();
        act.on(x);
        Check.due("undo() of " + what, x.undo(), 5);
        Check.due("all answers after undo() of " + what, Snapshot.of(x), before);
        Check.due("the next undo()", x.undo(), 4);
        Check.due("time() after it", x.time(), 600);
    }

    private static void changes() {
        Sentence.of(TERMS, "call(), handOn(), giveBack(), pass(), swapPlaces(), excuse(), setService() and setTrust() are changes ");
        isChange("call()", x -> x.call(0), true);
        isChange("call() to which nobody comes", x -> x.call(1), true);
        isChange("handOn()", x -> x.handOn(0, 3, 650), true);
        isChange("giveBack()", x -> x.giveBack(0), true);
        isChange("pass()", x -> x.pass(1), true);
        isChange("swapPlaces()", x -> x.swapPlaces(0, 1, 3), true);
        isChange("excuse()", x -> x.excuse(1, true), true);
        isChange("excuse() that ends", x -> x.excuse(0, false), false);
        isChange("setService()", x -> x.setService(0, false), true);
        isChange("setTrust()", x -> x.setTrust(0, 1, 3), true);
        Sentence.of(TERMS, "(also where they find everything as they would make it).");
        isChange("swapPlaces() of the same person", x -> x.swapPlaces(0, 1, 2), false);
        isChange("excuse() of one who is excused", x -> x.excuse(0, true), false);
        isChange("excuse() that ends nothing", x -> x.excuse(1, false), false);
        isChange("setService() of one in service", x -> x.setService(0, true), false);
        isChange("setTrust() to the same", x -> x.setTrust(0, 1, 7), false);
        BrigadePagers x = ready();
        x.setService(0, false);
        Check.due("setService() of one out of service", x.setService(0, false), 1);
        Check.due("undo() of it", x.undo(), 6);
        Check.due("the next undo()", x.undo(), 5);
        Check.due("whyStays(0, 0) after both", x.whyStays(0, 0), 3);
        x.giveBack(0);
        x.excuse(0, false);
        Check.due("whyAbsent(0, 0) of one who is excused no more", x.whyAbsent(0, 0), 0);
        x.undo();
        Check.due("whyAbsent(0, 0) after undo()", x.whyAbsent(0, 0), 2);
    }

    private static void tenAreKept() {
        Sentence.of(TERMS, "Each change that does not throw can be undone; ");
        for (int changes = 0; changes <= 10; changes++) {
            undoneAll(changes, changes);
        }
        Sentence.of(TERMS, "at most 10 are kept.");
        for (int changes = 9; changes <= 31; changes++) {
            undoneAll(changes, Math.min(10, changes));
        }
        // Changes of all sorts: the eleventh pushes out the first one, a step of time.
        BrigadePagers x = ready();
        x.setTrust(0, 1, 3);
        x.setService(0, false);
        x.giveBack(0);
        x.swapPlaces(0, 1, 3);
        x.call(1);
        Check.due("undo() of the tenth", x.undo(), 9);
        x.call(1);
        x.pass(1);
        Check.due("undo() of the eleventh", x.undo(), 9);
        for (int left = 8; left >= 0; left--) {
            Check.due("undo()", x.undo(), left);
        }
        Check.due("time() before the second change", x.time(), 600);
        Check.due("whyAbsent(0, 0) before the second change", x.whyAbsent(0, 0), 0);
        Check.refused("undo() of the first", NO_STATE, () -> x.undo());
    }

    private static void undoneAll(int changes, int kept) {
        BrigadePagers x = new BrigadePagers();
        for (int change = 0; change < changes; change++) {
            x.pass(1);
        }
        for (int left = kept - 1; left >= 0; left--) {
            Check.due("undo() after " + changes + " changes", x.undo(), left);
            Check.due("time() after it", x.time(), changes - kept + left);
        }
        Check.refused("one undo() more after " + changes + " changes", NO_STATE, () -> x.undo());
        Check.due("time() after it", x.time(), changes - kept);
    }

    private static void slots() {
        Sentence.of(TERMS, "Two slots hold saved states (empty at first and after a load() that does not throw); ");
        for (int slot = 0; slot < 2; slot++) {
            int asked = slot;
            Refusal.due("restore(" + slot + ") of a new object", NONE_SUCH, () -> new BrigadePagers(), x -> x.restore(asked));
            Refusal.due("restore(" + slot + ") after load()", NONE_SUCH, () -> loadedAgain(), x -> x.restore(asked));
            BrigadePagers kept = ready();
            kept.truncate(0);
            Check.refused("load() of nothing", NO_ARGUMENT, () -> kept.load());
            kept.restore(slot);
            Check.due("time() after restore(" + slot + ")", kept.time(), slot == 0 ? 600 : 620);
        }
        BrigadePagers x = ready();
        x.restore(0);
        Check.due("time() of slot 0", x.time(), 600);
        x.restore(1);
        Check.due("time() of slot 1", x.time(), 620);
        x.restore(0);
        Check.due("time() of slot 0 again", x.time(), 600);
    }

    private static BrigadePagers loadedAgain() {
        BrigadePagers x = ready();
        x.truncate(0);
        Check.put(x, Scenes.TEXT);
        x.load();
        return x;
    }

    private static void disturb(BrigadePagers x) {
        x.pass(60);
        x.excuse(0, false);
        x.excuse(2, true);
        x.swapPlaces(0, 1, 3);
        x.giveBack(0);
        x.handOn(0, 3, 900);
        x.setTrust(3, 2, 9);
        x.call(0);
        x.setService(0, false);
        x.pass(300);
        x.setService(1, false);
    }

    private static void everythingIsSaved() {
        Sentence.of(TERMS, "a state is everything (calls, pay and the present time, too) "
                + "but the text buffer, the error, the slots and the changes that can be undone.");
        BrigadePagers x = ready();
        String before = Snapshot.of(x);
        x.save(0);
        disturb(x);
        Check.due("count(4)", x.count(4), 2);
        Check.due("pay(3) of the new call", x.pay(3), 20);
        x.restore(0);
        Check.due("all answers after restore(0)", Snapshot.of(x), before);
        Check.due("count(4) after restore(0)", x.count(4), 1);
        Check.due("pay(3) after restore(0)", x.pay(3), 0);
        Check.due("time() after restore(0)", x.time(), 620);
        Check.due("the text buffer after restore(0)", x.find(0), 2);
        Check.refused("load() of nothing", NO_ARGUMENT, () -> x.load());
        x.restore(0);
        Check.due("errorCode() after restore(0)", x.errorCode(), 1);
        Check.due("errorPosition() after restore(0)", x.errorPosition(), 0);
        // What is saved in the other slot later is still there.
        disturb(x);
        x.save(1);
        x.restore(0);
        x.restore(1);
        Check.due("time() after restore(1)", x.time(), 980);
        Check.refused("undo() after restore(1)", NO_STATE, () -> x.undo());
        twoWaysOn();
        // undo() leaves the same things alone.
        BrigadePagers y = ready();
        y.pass(1);
        y.save(0);
        Check.due("the text buffer before undo()", y.find(0), 2);
        Check.put(y, "bc");
        Check.due("undo()", y.undo(), 5);
        y.truncate(1);
        Check.due("the text buffer after undo()", y.find(0), 1);
        y.restore(0);
        Check.due("time() of the slot after undo()", y.time(), 621);
    }

    /** Two ways on from the same begin, on which the same calls and the same engine are told of differently. */
    private static void twoWaysOn() {
        BrigadePagers x = Scenes.byDay(Scenes.NIGHT + "person a 1;person b 2;person c 3;person d 4;pager p 0 24 a;pager q 0 24 b;"
                + "pager r 0 24 c;pager s 0 24 d;engine e 5 any any;engine f 5 any;kind k 9 240 2:p q r s:e f;"
                + "kind l 30 240 2:s r q p:f e;");
        x.save(0);
        x.call(0);
        String one = Snapshot.of(x);
        x.pass(100);
        String oneLater = Snapshot.of(x);
        x.undo();
        x.save(1);
        x.restore(0);
        x.call(1);
        String other = Snapshot.of(x);
        x.pass(100);
        String otherLater = Snapshot.of(x);
        x.undo();
        x.save(0);
        Check.due("that the two differ", !one.equals(other) && !oneLater.equals(otherLater), true);
        for (int times = 0; times < 2; times++) {
            x.restore(1);
            Check.due("all answers after restore(1)", Snapshot.of(x), one);
            x.pass(100);
            Check.due("all answers later", Snapshot.of(x), oneLater);
            x.restore(0);
            Check.due("all answers after restore(0)", Snapshot.of(x), other);
            x.pass(100);
            Check.due("all answers later", Snapshot.of(x), otherLater);
        }
    }

    // ---- EXCEPTIONS

    private static void first(String what, Class<? extends RuntimeException> want, Refusal.Act act) {
        Refusal.due(what, want, () -> ready(), act);
    }

    private static void firstNamedException() {
        Sentence.of(TERMS, "If several exceptions apply to a call of a method, "
                + "the one that is named first in its throws clause is thrown.");
        first("lostSleepAfter(4, -1)", NO_INDEX, x -> x.lostSleepAfter(4, -1));
        first("trust(4, 4)", NO_INDEX, x -> x.trust(4, 4));
        first("trustPath(-1, -1)", NO_INDEX, x -> x.trustPath(-1, -1));
        first("holderAt(2, 0)", NO_INDEX, x -> x.holderAt(2, 0));
        first("dutyMinutes(4, 0)", NO_INDEX, x -> x.dutyMinutes(4, 0));
        first("steps(0, 4)", NO_INDEX, x -> x.steps(0, 4));
        first("steps(2, 0)", NO_INDEX, x -> x.steps(2, 0));
        first("departure(0, 2)", NO_INDEX, x -> x.departure(0, 2));
        first("mans(0, 0, 2), of an engine that stays", NO_INDEX, x -> x.mans(0, 0, 2));
        first("handOn(2, 0, 0)", NO_INDEX, x -> x.handOn(2, 0, 0));
        first("handOn(0, 4, 0)", NO_INDEX, x -> x.handOn(0, 4, 0));
        first("swapPlaces(2, 0, 0)", NO_INDEX, x -> x.swapPlaces(2, 0, 0));
        first("swapPlaces(0, 4, 4)", NO_INDEX, x -> x.swapPlaces(0, 4, 4));
        first("swapPlaces(0, 0, 4), the present place and none", NO_INDEX, x -> x.swapPlaces(0, 0, 4));
        first("swapPlaces(0, -1, 0), none and the present place", NO_INDEX, x -> x.swapPlaces(0, -1, 0));
        first("swapPlaces(0, 0, 0), the same present place", NO_ARGUMENT, x -> x.swapPlaces(0, 0, 0));
        first("setTrust(4, 4, 10)", NO_INDEX, x -> x.setTrust(4, 4, 10));
        first("setTrust(0, 4, 10)", NO_INDEX, x -> x.setTrust(0, 4, 10));
        first("restore(2)", NO_INDEX, x -> x.restore(2));
        Refusal.due("pass(0) at the last time", NO_ARGUMENT, () -> last(), x -> x.pass(0));
        Refusal.due("pass(1441) at the last time", NO_ARGUMENT, () -> last(), x -> x.pass(1441));
        Refusal.due("restore(-1) when nothing is saved", NO_INDEX, () -> last(), x -> x.restore(-1));
        Refusal.due("giveBack(2) without a hand-on", NO_INDEX, () -> last(), x -> x.giveBack(2));
        Refusal.due("helpfulPager(2)", NO_INDEX, () -> last(), x -> x.helpfulPager(2));
        // A call that is answered, and nobody to hand the one pager to.
        Refusal.Scene alone = () -> Check.brigade(Scenes.NIGHT + "person a 1;pager p 0 1 a;engine e 5 any;kind k 9 240 1:p:e;");
        Refusal.due("helpfulPager(0) of one", NO_STATE, alone, x -> x.helpfulPager(0));
        Refusal.due("helpfulPerson(0) of one", NO_STATE, alone, x -> x.helpfulPerson(0));
        Sentence.of(TERMS, "A method that throws an exception changes nothing, unless its comment says otherwise.");
        Refusal.due("the eleventh change that throws", NO_INDEX, () -> tenChanges(), x -> x.excuse(4, true));
        Refusal.due("the eleventh change that throws, of time", NO_ARGUMENT, () -> tenChanges(), x -> x.pass(1441));
        Refusal.due("the eleventh change that throws, of trust", NO_ARGUMENT, () -> tenChanges(), x -> x.setTrust(0, 1, 10));
        Refusal.due("the eleventh change that throws, of service", NO_STATE, () -> tenChanges(), x -> x.setService(1, false));
    }

    private static BrigadePagers last() {
        BrigadePagers x = Check.brigade(Scenes.TEXT);
        Check.passTo(x, 20160);
        return x;
    }

    private static BrigadePagers tenChanges() {
        BrigadePagers x = ready();
        for (int level = 1; level <= 5; level++) {
            x.setTrust(0, 1, level);
        }
        return x;
    }

    // ---- promises 47 and 48

    private static void handOn() {
        Sentence.of(47, "Returns the number of hand-ons that the pager has then.");
        BrigadePagers x = Check.brigade(PagerEdges.TEXT);
        for (int person = 1; person <= 3; person++) {
            Check.due("handOn(0, " + person + ", 600)", x.handOn(0, person, 600), person);
            Check.due("the holder then", x.holderAt(0, 0), person);
        }
        Check.due("handOn(1, 0, 1) of another pager", x.handOn(1, 0, 1), 1);
        Check.due("handOns(0)", x.handOns(0), 3);
        x.pass(1);
        Check.due("handOns(1) at its end", x.handOns(1), 0);
        Check.due("handOn(1, 0, 600), again", x.handOn(1, 0, 600), 1);
    }

    /** What has to happen first so that pager p cannot be handed on to b until 600. */
    private static BrigadePagers reason(int reason) {
        BrigadePagers x = Check.brigade(PagerEdges.TEXT);
        if (reason == 1) {
            x.call(0);
        } else if (reason == 2) {
            x.handOn(0, 1, 600);
        } else if (reason == 3) {
            x.excuse(1, true);
        } else if (reason == 4 || reason == 5) {
            x.call(1);
            x.pass(reason == 4 ? 9 : 15);
        } else if (reason == 6) {
            x.setTrust(0, 1, 4);
        } else if (reason == 7) {
            for (int person = 2; person <= 4; person++) {
                for (int before = 0; before < person; before++) {
                    x.setTrust(person, 1, 9);
                    x.setTrust(before, person, 9);
                }
                x.handOn(0, person, 600);
            }
        } else {
            x.pass(600);
        }
        Check.put(x, "b");
        return x;
    }

    private static void reasonsAgainstHandOn() {
        Sentence.of(47, "Throws `IllegalStateException` if there is a reason against it");
        for (int reason = 1; reason <= 8; reason++) {
            int why = reason;
            Check.due("whyNotHandOn(0, 1, 600)", reason(reason).whyNotHandOn(0, 1, 600), reason);
            Refusal.due("handOn(0, 1, 600) with reason " + reason, NO_STATE, () -> reason(why), x -> x.handOn(0, 1, 600));
        }
        for (int until : new int[] {600, 599, 0, -1, 1201, Integer.MIN_VALUE, Integer.MAX_VALUE}) {
            Refusal.due("handOn(0, 1, " + until + ") at 600", NO_STATE, () -> reason(8), x -> x.handOn(0, 1, until));
        }
        Check.due("handOn(0, 1, 601) at 600", reason(8).handOn(0, 1, 601), 1);
        Check.due("handOn(0, 1, 1200) at 600", reason(8).handOn(0, 1, 1200), 1);
    }

    private static void giveBack() {
        Sentence.of(48, "Ends the last hand-on of a pager.");
        BrigadePagers x = reason(7);
        Check.due("giveBack(0) of three", x.giveBack(0), 3);
        Check.due("handOns(0)", x.handOns(0), 2);
        Sentence.of(48, "Returns the number of the person who is the holder then.");
        Check.due("giveBack(0) of two", x.giveBack(0), 2);
        Check.due("giveBack(0) of one", x.giveBack(0), 0);
        Check.due("chain(0, 0)", x.chain(0, 0), 0);
        BrigadePagers later = Check.brigade(TEXT);
        Check.passTo(later, 3600);
        later.handOn(0, 3, 4800);
        Check.due("giveBack(0) in turn 3", later.giveBack(0), 2);
        Sentence.of(48, "Throws `IllegalStateException` if it has no hand-on");
        Check.refused("giveBack(0) of none", NO_STATE, () -> x.giveBack(0));
        Refusal.due("giveBack(1), of another pager", NO_STATE, () -> ready(), y -> y.giveBack(1));
        Refusal.due("giveBack(0) at the end", NO_STATE, () -> {
            BrigadePagers y = ready();
            y.pass(80);
            return y;
        }, y -> y.giveBack(0));
        BrigadePagers before = ready();
        before.pass(79);
        Check.due("giveBack(0) a minute before the end", before.giveBack(0), 0);
    }

    // ---- promise 49

    /** Engine e returns at 620, f at 621. */
    private static BrigadePagers twoOut() {
        BrigadePagers x = Scenes.byDay(Scenes.NIGHT + "person a 1;person b 2;pager p 0 24 a;pager q 0 24 b;engine e 5 any;"
                + "engine f 5 any;kind k 9 240 1:p q:e f;");
        x.call(0);
        return x;
    }

    private static void pass() {
        Sentence.of(49, "`minutes`: 1 to 1440");
        BrigadePagers x = Check.brigade(Scenes.TEXT);
        x.pass(1);
        Check.due("time() after pass(1)", x.time(), 1);
        x.pass(1440);
        Check.due("time() after pass(1440)", x.time(), 1441);
        Sentence.of(49, "Returns the number of engines that returned meanwhile (or just at the end).");
        int[][] due = {{1, 0}, {19, 0}, {20, 1}, {21, 2}, {22, 2}, {1440, 2}};
        for (int[] row : due) {
            Check.due("pass(" + row[0] + ")", twoOut().pass(row[0]), row[1]);
        }
        BrigadePagers y = twoOut();
        Check.due("pass(19)", y.pass(19), 0);
        Check.due("pass(1) to the first return", y.pass(1), 1);
        Check.due("pass(1) to the second return", y.pass(1), 1);
        Check.due("pass(1) after both", y.pass(1), 0);
        BrigadePagers full = Scenes.full();
        full.call(0);
        Check.due("pass(1440) with all five", full.pass(1440), 5);
    }

    private static BrigadePagers near(int time) {
        BrigadePagers x = ready();
        Check.passTo(x, time);
        return x;
    }

    private static void passTooLong() {
        Sentence.of(49, "Throws `IllegalArgumentException` if minutes is out of range");
        for (int minutes : new int[] {0, -1, 1441, 20160, Integer.MIN_VALUE, Integer.MAX_VALUE}) {
            Refusal.due("pass(" + minutes + ")", NO_ARGUMENT, () -> ready(), x -> x.pass(minutes));
        }
        Sentence.of(49, "Throws `IllegalStateException` if the present time would be greater than 20160");
        BrigadePagers x = near(18720);
        x.pass(1440);
        Check.due("time() after pass(1440) at 18720", x.time(), 20160);
        Refusal.due("pass(1440) at 18721", NO_STATE, () -> near(18721), y -> y.pass(1440));
        Check.due("pass(1439) at 18721", near(18721).pass(1439), 0);
        Check.due("pass(1) at 20159", near(20159).pass(1), 0);
        Refusal.due("pass(2) at 20159", NO_STATE, () -> near(20159), y -> y.pass(2));
        Refusal.due("pass(1) at 20160", NO_STATE, () -> near(20160), y -> y.pass(1));
    }

    // ---- promises 50 to 53

    private static void swapPlaces() {
        Sentence.of(50, "Returns the number of the person who is at place then.");
        String text = Scenes.NIGHT + Texts.many("person ", 8, " 1;") + "pager p 0 10 a b c d e f g h;pager q 0 10 a;";
        BrigadePagers x = Check.brigade(text);
        Check.due("swapPlaces(0, 1, 7)", x.swapPlaces(0, 1, 7), 7);
        Check.due("rotation(0, 1)", x.rotation(0, 1), 7);
        Check.due("rotation(0, 7)", x.rotation(0, 7), 1);
        Check.due("swapPlaces(0, 7, 6)", x.swapPlaces(0, 7, 6), 6);
        Check.due("rotation(0, 6)", x.rotation(0, 6), 1);
        Check.due("holderAt(0, 600)", x.holderAt(0, 600), 7);
        BrigadePagers full = Scenes.full();
        Check.due("swapPlaces(5, 1, 7) of the last pager", full.swapPlaces(5, 1, 7), 5);
        Check.due("rotation(5, 1) of the last pager", full.rotation(5, 1), 5);
        Check.due("rotation(5, 7) of the last pager", full.rotation(5, 7), 11);
        Check.due("rotation(4, 7) of the one before it", full.rotation(4, 7), 3);
        Sentence.of(50, "Throws `IndexOutOfBoundsException` if there is no such pager or place (of either)");
        for (int place : new int[] {-1, 8, 9, Integer.MIN_VALUE, Integer.MAX_VALUE}) {
            Refusal.due("swapPlaces(0, " + place + ", 1)", NO_INDEX, () -> Check.brigade(text), y -> y.swapPlaces(0, place, 1));
            Refusal.due("swapPlaces(0, 1, " + place + ")", NO_INDEX, () -> Check.brigade(text), y -> y.swapPlaces(0, 1, place));
        }
        for (int place : new int[] {-1, 4, 8, Integer.MIN_VALUE, Integer.MAX_VALUE}) {
            first("swapPlaces(0, " + place + ", 1)", NO_INDEX, y -> y.swapPlaces(0, place, 1));
            first("swapPlaces(0, 1, " + place + ")", NO_INDEX, y -> y.swapPlaces(0, 1, place));
        }
        Refusal.due("swapPlaces(1, 0, 1) of one place", NO_INDEX, () -> Check.brigade(text), y -> y.swapPlaces(1, 0, 1));
        Sentence.of(50, "Throws `IllegalArgumentException` if they are the same place");
        for (int place = 0; place < 4; place++) {
            int same = place;
            first("swapPlaces of " + place + " twice", NO_ARGUMENT, y -> y.swapPlaces(0, same, same));
        }
        Refusal.due("swapPlaces(0, 7, 7)", NO_ARGUMENT, () -> Check.brigade(text), y -> y.swapPlaces(0, 7, 7));
        Sentence.of(50, "Throws `IllegalStateException` if one of them is the present place");
        for (int turn : new int[] {0, 1, 7, 8, 9}) {
            BrigadePagers y = Check.brigade(text);
            Check.passTo(y, 600 * turn);
            int present = turn % 8;
            int before = (present + 7) % 8;
            int after = (present + 1) % 8;
            Check.refused("swapPlaces of the present place and the next", NO_STATE, () -> y.swapPlaces(0, present, after));
            Check.refused("swapPlaces of the one before and the present place", NO_STATE, () -> y.swapPlaces(0, before, present));
            Check.due("swapPlaces of those beside it", y.swapPlaces(0, before, after), after);
            y.pass(599);
            Check.refused("swapPlaces in the last minute of the turn", NO_STATE, () -> y.swapPlaces(0, present, after));
            y.pass(1);
            Check.refused("swapPlaces of the new present place", NO_STATE, () -> y.swapPlaces(0, after, present));
            Check.due("swapPlaces of the old one", y.swapPlaces(0, present, before), after);
        }
        first("swapPlaces(0, 0, 1)", NO_STATE, y -> y.swapPlaces(0, 0, 1));
        first("swapPlaces(0, 3, 0)", NO_STATE, y -> y.swapPlaces(0, 3, 0));
    }

    private static void excuseAndService() {
        Sentence.of(51, "No person is excused at first.");
        BrigadePagers x = Scenes.full();
        for (int person = 0; person < 12; person++) {
            Check.due("whyAbsent(0, " + person + ")", x.whyAbsent(0, person), person % 2);
        }
        BrigadePagers again = loadedAgain();
        Check.due("excuse(3, false) after load()", again.excuse(3, false), 0);
        Sentence.of(51, "Returns the number of excused persons then.");
        Check.due("excuse(0, false) of none", x.excuse(0, false), 0);
        for (int person = 0; person < 12; person++) {
            Check.due("excuse(" + person + ", true)", x.excuse(person, true), person + 1);
            Check.due("excuse(" + person + ", true) again", x.excuse(person, true), person + 1);
        }
        for (int person = 11; person >= 0; person--) {
            Check.due("excuse(" + person + ", false)", x.excuse(person, false), person);
        }
        Sentence.of(52, "All engines are in service at first.");
        BrigadePagers y = Scenes.full();
        for (int index = 0; index < 5; index++) {
            Check.due("whyStays(0, " + index + ")", y.whyStays(0, index), 0);
        }
        Check.due("setService(1, true) after load()", loadedAgain().setService(1, true), 2);
        Sentence.of(52, "Returns the number of engines in service then.");
        Check.due("setService(0, true) of all", y.setService(0, true), 5);
        for (int engine = 0; engine < 5; engine++) {
            Check.due("setService(" + engine + ", false)", y.setService(engine, false), 4 - engine);
            Check.due("setService(" + engine + ", false) again", y.setService(engine, false), 4 - engine);
        }
        for (int engine = 4; engine >= 0; engine--) {
            Check.due("setService(" + engine + ", true)", y.setService(engine, true), 5 - engine);
        }
        Sentence.of(52, "Throws `IllegalStateException` if the engine is out");
        first("setService(1, false)", NO_STATE, z -> z.setService(1, false));
        first("setService(1, true)", NO_STATE, z -> z.setService(1, true));
        Check.due("setService(0, false), of another one", ready().setService(0, false), 1);
        BrigadePagers before = near(672);
        Check.refused("setService(1, false) a minute before the return", NO_STATE, () -> before.setService(1, false));
        Check.due("setService(1, false) at the return", near(673).setService(1, false), 1);
    }

    private static void setTrust() {
        Sentence.of(53, "Returns how much the person trusted the other one before.");
        BrigadePagers x = Scenes.full();
        Check.due("setTrust(0, 11, 9)", x.setTrust(0, 11, 9), 0);
        Check.due("setTrust(0, 11, 0)", x.setTrust(0, 11, 0), 9);
        Check.due("setTrust(0, 11, 0) again", x.setTrust(0, 11, 0), 0);
        Check.due("setTrust(11, 0, 1), the other way", x.setTrust(11, 0, 1), 0);
        Sentence.of(53, "`level`: 0 to 9");
        for (int level = 0; level <= 9; level++) {
            x.setTrust(3, 4, level);
            Check.due("trust(3, 4)", x.trust(3, 4), level);
            Check.due("trust(4, 3)", x.trust(4, 3), 0);
        }
        Sentence.of(53, "Throws `IllegalArgumentException` if they are the same, or level is out of range");
        for (int level : new int[] {-1, 10, Integer.MIN_VALUE, Integer.MAX_VALUE}) {
            first("setTrust(0, 1, " + level + ")", NO_ARGUMENT, y -> y.setTrust(0, 1, level));
            first("setTrust(1, 1, " + level + ")", NO_ARGUMENT, y -> y.setTrust(1, 1, level));
        }
        for (int person = 0; person < 4; person++) {
            int same = person;
            first("setTrust of " + person + " in the same", NO_ARGUMENT, y -> y.setTrust(same, same, 5));
        }
    }

    // ---- promises 54 to 56

    private static void undo() {
        Sentence.of(54, "Undoes the latest change that is kept.");
        BrigadePagers x = Check.brigade(Scenes.TEXT);
        x.pass(1);
        x.pass(2);
        x.pass(4);
        x.undo();
        Check.due("time() after undo()", x.time(), 3);
        BrigadePagers full = Scenes.full();
        for (int times = 0; times < 2; times++) {
            full.call(0);
            Check.due("isAnswered(0)", full.isAnswered(0), true);
            Check.due("left(0)", full.left(0), 5);
            full.undo();
            full.call(2);
            Check.due("isAnswered(0) of another call instead", full.isAnswered(0), false);
            Check.due("left(0) of another call instead", full.left(0), 0);
            full.undo();
        }
        Check.due("count(4) after both", full.count(4), 0);
        Sentence.of(54, "Returns the number of changes that can still be undone.");
        Check.due("the second undo()", x.undo(), 1);
        x.pass(8);
        Check.due("undo() of a change after it", x.undo(), 1);
        Check.due("the last undo()", x.undo(), 0);
        Sentence.of(54, "Throws `IllegalStateException` if there is none");
        Check.refused("undo() of none", NO_STATE, () -> x.undo());
        Refusal.due("undo() of a new object", NO_STATE, () -> new BrigadePagers(), y -> y.undo());
        Refusal.due("undo() after load()", NO_STATE, () -> loadedAgain(), y -> y.undo());
        Refusal.due("undo() after restore()", NO_STATE, () -> {
            BrigadePagers y = ready();
            y.restore(1);
            return y;
        }, y -> y.undo());
    }

    private static void save() {
        Sentence.of(55, "Saves the state in a slot, in place of what was saved there.");
        BrigadePagers x = ready();
        x.save(0);
        x.pass(1);
        x.restore(0);
        Check.due("time() after the second save(0)", x.time(), 620);
        Sentence.of(55, "This is no change.");
        BrigadePagers y = ready();
        String before = Snapshot.of(y);
        y.save(0);
        y.save(1);
        Check.due("all answers after save()", Snapshot.of(y), before);
        Check.due("undo() after save()", y.undo(), 4);
        Check.due("time() after undo()", y.time(), 600);
        Sentence.of(55, "`slot`: 0 or 1");
        BrigadePagers z = new BrigadePagers();
        z.save(0);
        Check.refused("restore(1) after save(0)", NONE_SUCH, () -> z.restore(1));
        z.pass(1);
        z.save(1);
        z.restore(0);
        Check.due("time() of slot 0", z.time(), 0);
        z.restore(1);
        Check.due("time() of slot 1", z.time(), 1);
        Sentence.of(55, "Throws `IndexOutOfBoundsException` if slot is out of range");
        for (int slot : NO_SLOTS) {
            first("save(" + slot + ")", NO_INDEX, u -> u.save(slot));
            Refusal.due("save(" + slot + ") of a new object", NO_INDEX, () -> new BrigadePagers(), u -> u.save(slot));
        }
    }

    private static void restore() {
        Sentence.of(56, "It stays saved.");
        BrigadePagers x = ready();
        x.restore(0);
        String before = Snapshot.of(x);
        x.pass(100);
        x.setTrust(3, 0, 9);
        x.restore(0);
        Check.due("all answers after restore(0) again", Snapshot.of(x), before);
        x.call(0);
        x.undo();
        x.restore(0);
        Check.due("all answers after restore(0) once more", Snapshot.of(x), before);
        Sentence.of(56, "No change can be undone then.");
        Check.refused("undo() after restore(0)", NO_STATE, () -> x.undo());
        x.pass(1);
        Check.due("undo() of a change after it", x.undo(), 0);
        Check.refused("undo() of what was before it", NO_STATE, () -> x.undo());
        Sentence.of(56, "`slot`: 0 or 1");
        BrigadePagers y = ready();
        y.restore(1);
        Check.due("time() of slot 1", y.time(), 620);
        y.restore(0);
        Check.due("time() of slot 0", y.time(), 600);
        Sentence.of(56, "Throws `IndexOutOfBoundsException` if slot is out of range");
        for (int slot : NO_SLOTS) {
            first("restore(" + slot + ")", NO_INDEX, z -> z.restore(slot));
            Refusal.due("restore(" + slot + ") of a new object", NO_INDEX, () -> new BrigadePagers(), z -> z.restore(slot));
        }
        Sentence.of(56, "Throws `NoSuchElementException` if nothing is saved in the slot");
        for (int slot = 0; slot < 2; slot++) {
            int empty = slot;
            Refusal.due("restore(" + slot + ") when the other one is full", NONE_SUCH, () -> {
                BrigadePagers z = Scenes.byDay(Scenes.TEXT);
                z.save(1 - empty);
                z.pass(20);
                return z;
            }, z -> z.restore(empty));
        }
    }

    /** "An object is used for at most 512 calls after it has been made". */
    private static void manyCalls() {
        Check.part("512 calls");
        BrigadePagers x = new BrigadePagers();
        for (int call = 1; call <= 511; call++) {
            x.pass(1);
        }
        Check.due("the 512th call", x.time(), 511);
        Check.due("undo() after it", x.undo(), 9);
    }
}
