import java.util.NoSuchElementException;

/** Promises 36 to 45: what would happen if a call came now. */
public final class ForetellPromisesTest {
    private static final String NIGHT = "night 22 6 5 240;";
    /** Kind l names the engines the other way round, and g not at all. */
    private static final String TEXT = NIGHT + "person a 4 chief driver;person b 6 driver;person c 3 medic;"
            + "person d 10 smoke;person e 2;pager p 0 24 a;pager q 0 24 b;pager r 0 24 c;pager s 0 24 d;pager t 0 24 e;"
            + "engine g 10 driver any;engine h 20 chief;engine i 5 any;kind k 30 240 2:p q r s t:g h i;"
            + "kind l 300 6 2:s q p:i h;";
    private static final int[] NO_KINDS = {-1, 2, 6, Integer.MIN_VALUE, Integer.MAX_VALUE};
    private static final int[] NO_NUMBERS = {-1, 5, 12, Integer.MIN_VALUE, Integer.MAX_VALUE};
    private static final Class<IndexOutOfBoundsException> NO_INDEX = IndexOutOfBoundsException.class;
    private static final Class<IllegalStateException> NO_STATE = IllegalStateException.class;
    private static final Class<NoSuchElementException> NONE_SUCH = NoSuchElementException.class;

    public static void main(String[] args) {
        whyAbsent();
        whyAbsentTired();
        whyStays();
        departure();
        leastDeparture();
        firstCrew();
        mans();
        manned();
        wouldAnswer();
        mostEngines();
        hoursByTurns();
        hoursByReturns();
        hoursByRest();
        helpful();
        helpfulRefused();
        Check.end();
    }

    private static BrigadePagers byDay(String text) {
        BrigadePagers x = Check.brigade(text);
        x.pass(600);
        return x;
    }

    private static void row(String name, Check.OfOne asked, int... due) {
        for (int number = 0; number < due.length; number++) {
            Check.due(name + " of " + number, asked.of(number), due[number]);
        }
    }

    private static void whyAbsent() {
        Check.part("promise 36");
        BrigadePagers x = byDay(TEXT);
        row("whyAbsent of k", person -> x.whyAbsent(0, person), 0, 0, 0, 0, 0);
        row("whyAbsent of l", person -> x.whyAbsent(1, person), 0, 0, 1, 5, 1);
        x.handOn(1, 2, 1440);
        row("whyAbsent of l, handed on", person -> x.whyAbsent(1, person), 0, 1, 0, 5, 1);
        x.excuse(2, true);
        x.excuse(3, true);
        x.excuse(4, true);
        row("whyAbsent of l, excused", person -> x.whyAbsent(1, person), 0, 1, 2, 2, 1);
        x.excuse(3, false);
        x.call(0);
        row("whyAbsent of k, out", person -> x.whyAbsent(0, person), 3, 1, 2, 3, 2);
        row("whyAbsent of l, out", person -> x.whyAbsent(1, person), 3, 1, 2, 3, 1);
        BrigadePagers y = Check.brigade(TEXT);
        row("whyAbsent of l by night", person -> y.whyAbsent(1, person), 5, 5, 1, 5, 1);
        BrigadePagers z = Check.brigade(NIGHT + "person a 1;person b 2;pager p 0 1 a;pager q 0 1 b;engine e 5 any;"
                + "kind k 5 6 1:p q:e;");
        row("whyAbsent at the patience", person -> z.whyAbsent(0, person), 0, 5);
        for (int kind : NO_KINDS) {
            Check.refusedUnchanged("no such kind", NO_INDEX, x, () -> x.whyAbsent(kind, 0));
        }
        for (int person : NO_NUMBERS) {
            Check.refusedUnchanged("no such person", NO_INDEX, x, () -> x.whyAbsent(0, person));
            Check.refusedUnchanged("neither", NO_INDEX, x, () -> x.whyAbsent(2, person));
        }
    }

    private static void whyAbsentTired() {
        Check.part("promise 36, tired");
        BrigadePagers x = Check.brigade("night 22 6 5 40;person a 4;pager p 0 24 a;engine e 5 any;kind k 30 240 1:p:e;"
                + "kind l 30 3 1:p:e;kind m 30 240 1:p:e;");
        x.call(0);
        x.pass(40);
        Check.due("whyAbsent of one who is out and tired", x.whyAbsent(0, 0), 3);
        x.pass(9);
        Check.due("lostSleep(0)", x.lostSleep(0), 49);
        Check.due("whyAbsent of one who is tired", x.whyAbsent(0, 0), 4);
        Check.due("whyAbsent of one who is tired and late", x.whyAbsent(1, 0), 4);
        x.excuse(0, true);
        Check.due("whyAbsent of one who is excused and tired", x.whyAbsent(0, 0), 2);
        x.excuse(0, false);
        x.pass(9);
        Check.due("whyAbsent with 40 minutes lost", x.whyAbsent(0, 0), 4);
        x.pass(1);
        Check.due("whyAbsent with 39 minutes lost", x.whyAbsent(0, 0), 0);
    }

    private static void noEngines(BrigadePagers x, Check.OfTwo asked) {
        for (int kind : NO_KINDS) {
            Check.refusedUnchanged("no such kind", NO_INDEX, x, () -> asked.of(kind, 0));
        }
        for (int index : new int[] {-1, 3, 5, Integer.MIN_VALUE, Integer.MAX_VALUE}) {
            Check.refusedUnchanged("no such engine", NO_INDEX, x, () -> asked.of(0, index));
            Check.refusedUnchanged("neither", NO_INDEX, x, () -> asked.of(2, index));
        }
        Check.refusedUnchanged("no third engine", NO_INDEX, x, () -> asked.of(1, 2));
    }

    private static void whyStays() {
        Check.part("promise 37");
        BrigadePagers x = byDay(TEXT);
        row("whyStays of k", index -> x.whyStays(0, index), 0, 3, 0);
        row("whyStays of l", index -> x.whyStays(1, index), 0, 3);
        x.setService(1, false);
        row("whyStays of k without h", index -> x.whyStays(0, index), 0, 1, 0);
        x.setService(0, false);
        row("whyStays of k without g and h", index -> x.whyStays(0, index), 1, 1, 0);
        x.setService(1, true);
        row("whyStays of k without g", index -> x.whyStays(0, index), 1, 0, 0);
        x.call(0);
        row("whyStays of k after it came", index -> x.whyStays(0, index), 1, 2, 2);
        row("whyStays of l after k came", index -> x.whyStays(1, index), 2, 2);
        Check.passTo(x, 641);
        row("whyStays of l at 641", index -> x.whyStays(1, index), 2, 2);
        x.pass(1);
        Check.due("whyStays(1, 0) at 642", x.whyStays(1, 0), 0);
        noEngines(x, (kind, index) -> x.whyStays(kind, index));
        // The one who would man i is chief too: h is left without.
        BrigadePagers y = byDay(TEXT);
        y.excuse(1, true);
        row("whyStays of l without b", index -> y.whyStays(1, index), 0, 3);
        BrigadePagers z = byDay(TEXT.replace("300 6 2", "300 240 2"));
        row("whyStays of the patient l", index -> z.whyStays(1, index), 0, 3);
        z.excuse(0, true);
        z.excuse(1, true);
        z.excuse(3, true);
        row("whyStays of the patient l without anybody", index -> z.whyStays(1, index), 3, 3);
    }

    private static void departure() {
        Check.part("promise 38");
        BrigadePagers x = byDay(TEXT);
        Check.due("departure(0, 0)", x.departure(0, 0), 4);
        Check.due("departure(0, 2)", x.departure(0, 2), 2);
        Check.refusedUnchanged("departure(0, 1)", NO_STATE, x, () -> x.departure(0, 1));
        x.excuse(0, true);
        Check.due("departure(0, 0) without a", x.departure(0, 0), 6);
        x.setService(0, false);
        Check.refusedUnchanged("departure(0, 0) without g", NO_STATE, x, () -> x.departure(0, 0));
        BrigadePagers y = Check.brigade(TEXT);
        Check.due("departure(0, 0) by night", y.departure(0, 0), 9);
        y.call(0);
        Check.refusedUnchanged("departure(0, 0) while g is out", NO_STATE, y, () -> y.departure(0, 0));
        noEngines(y, (kind, index) -> y.departure(kind, index));
    }

    /** Who comes first is not enough: the posts need what only later ones can. */
    private static void leastDeparture() {
        Check.part("promise 38, the least one");
        BrigadePagers x = byDay(NIGHT + "person a 1 medic;person b 2 medic;person c 9 driver medic;person d 7 driver;"
                + "person e 8 driver;pager p 0 24 a;pager q 0 24 b;pager r 0 24 c;pager s 0 24 d;pager t 0 24 e;"
                + "engine g 10 driver medic;engine h 10 driver medic;engine i 10 any;kind k 30 240 2:p q r s t:g h i;");
        Check.due("departure(0, 0)", x.departure(0, 0), 7);
        Check.due("departure(0, 1)", x.departure(0, 1), 8);
        Check.due("departure(0, 2)", x.departure(0, 2), 9);
        row("mans of g", post -> x.mans(0, 0, post), 3, 0);
        row("mans of h", post -> x.mans(0, 1, post), 4, 1);
        row("mans of i", post -> x.mans(0, 2, post), 2);
        // Nobody but c is left to drive, and then c's arrival lets everybody else be in time.
        x.excuse(3, true);
        x.excuse(4, true);
        Check.due("departure(0, 0) with c alone to drive", x.departure(0, 0), 9);
        row("mans of g", post -> x.mans(0, 0, post), 2, 0);
        Check.due("departure(0, 2)", x.departure(0, 2), 2);
    }

    private static void crewIs(String posts, int... crew) {
        BrigadePagers x = byDay(NIGHT + "person a 9 driver;person b 5 medic;person c 9 chief driver;person d 9 medic;"
                + "person e 9 driver medic;person f 10 chief;pager p 0 24 a;pager q 0 24 b;pager r 0 24 c;pager s 0 24 d;"
                + "pager t 0 24 e;pager u 0 24 f;engine g 10 " + posts + ";kind k 30 240 1:p q r s t u:g;");
        x.call(0);
        row("member for " + posts, at -> x.member(0, 0, at), crew);
        Check.refused("one member more", NO_INDEX, () -> x.member(0, 0, crew.length));
    }

    private static void firstCrew() {
        Check.part("promises 38 and 46, the first crew");
        crewIs("any", 1);
        crewIs("driver", 0);
        crewIs("any any", 0, 1);
        crewIs("medic medic", 1, 3);
        crewIs("driver medic", 0, 1);
        crewIs("medic driver any", 0, 1, 2);
        crewIs("chief driver", 0, 2);
        crewIs("chief medic", 1, 2);
        crewIs("driver driver medic medic", 0, 1, 2, 3);
        crewIs("driver driver driver medic", 0, 1, 2, 4);
        crewIs("medic medic medic any", 0, 1, 3, 4);
        crewIs("chief chief", 2, 5);
        crewIs("any any any any any any", 0, 1, 2, 3, 4, 5);
        crewIs("driver driver driver medic medic", 0, 1, 2, 3, 4);
    }

    private static void wayIs(String posts, int... persons) {
        BrigadePagers x = byDay(NIGHT + "person a 9 driver smoke;person b 9;person c 9 chief driver;person d 9 medic smoke;"
                + "pager p 0 24 a;pager q 0 24 b;pager r 0 24 c;pager s 0 24 d;engine g 10 " + posts
                + ";kind k 30 240 1:p q r s:g;");
        row("mans for " + posts, post -> x.mans(0, 0, post), persons);
        for (int post : new int[] {-1, persons.length, 6, Integer.MIN_VALUE, Integer.MAX_VALUE}) {
            Check.refusedUnchanged("mans for " + posts, NO_INDEX, x, () -> x.mans(0, 0, post));
        }
    }

    private static void mans() {
        Check.part("promise 39");
        wayIs("any", 0);
        wayIs("driver any", 0, 1);
        wayIs("any driver", 1, 0);
        wayIs("any any driver", 0, 1, 2);
        wayIs("any any any any", 0, 1, 2, 3);
        wayIs("any driver any driver", 1, 0, 3, 2);
        wayIs("smoke any driver any", 0, 1, 2, 3);
        wayIs("any any driver smoke", 0, 1, 2, 3);
        wayIs("driver driver smoke any", 0, 2, 3, 1);
        wayIs("medic chief any smoke", 3, 2, 1, 0);
        wayIs("chief", 2);
        BrigadePagers x = byDay(TEXT);
        row("mans of g", post -> x.mans(0, 0, post), 0, 2);
        row("mans of i", post -> x.mans(0, 2, post), 4);
        Check.refusedUnchanged("mans of h", NO_STATE, x, () -> x.mans(0, 1, 0));
        Check.refusedUnchanged("a wrong post of h", NO_INDEX, x, () -> x.mans(0, 1, 1));
        Check.refusedUnchanged("a wrong post of i", NO_INDEX, x, () -> x.mans(0, 2, -1));
        noEngines(x, (kind, index) -> x.mans(kind, index, 0));
        x.call(0);
        Check.refusedUnchanged("mans of g while it is out", NO_STATE, x, () -> x.mans(0, 0, 0));
        Check.refusedUnchanged("a wrong post of g while it is out", NO_INDEX, x, () -> x.mans(0, 0, 2));
    }

    private static void manned() {
        Check.part("promise 40");
        BrigadePagers x = byDay(TEXT);
        row("manned of k", index -> x.manned(0, index), 2, 0, 1);
        row("manned of l", index -> x.manned(1, index), 1, 0);
        x.setService(0, false);
        row("manned of k without g", index -> x.manned(0, index), 2, 1, 1);
        x.setService(1, false);
        row("manned of k without g and h", index -> x.manned(0, index), 2, 1, 1);
        x.undo();
        x.undo();
        x.call(0);
        row("manned of k when all are out", index -> x.manned(0, index), 0, 0, 0);
        x.pass(20);
        row("manned of k when b and d are back", index -> x.manned(0, index), 2, 0, 1);
        BrigadePagers y = byDay(NIGHT + "person a 1 driver medic;person b 1 driver;person c 1;"
                + "pager p 0 24 a;pager q 0 24 b;pager r 0 24 c;engine g 5 medic medic driver driver;engine h 5 smoke chief;"
                + "engine i 5 driver any any any;kind k 9 240 1:p q r:g h i;");
        row("manned of engines that stay", index -> y.manned(0, index), 2, 0, 3);
        noEngines(x, (kind, index) -> x.manned(kind, index));
    }

    private static void wouldAnswer() {
        Check.part("promise 41");
        BrigadePagers x = byDay(TEXT);
        Check.due("wouldAnswer(0)", x.wouldAnswer(0), true);
        Check.due("wouldAnswer(1)", x.wouldAnswer(1), false);
        x.setService(2, false);
        Check.due("wouldAnswer(0) without i", x.wouldAnswer(0), false);
        x.setService(2, true);
        x.setService(0, false);
        Check.due("wouldAnswer(0) by h and i", x.wouldAnswer(0), true);
        x.call(0);
        Check.due("wouldAnswer(0) after it came", x.wouldAnswer(0), false);
        for (int kind : NO_KINDS) {
            Check.refusedUnchanged("wouldAnswer(" + kind + ")", NO_INDEX, x, () -> x.wouldAnswer(kind));
        }
    }

    private static void mostEngines() {
        Check.part("promise 42");
        BrigadePagers x = byDay(TEXT);
        Check.due("mostEngines(0)", x.mostEngines(0), 3);
        Check.due("mostEngines(1)", x.mostEngines(1), 2);
        x.excuse(1, true);
        Check.due("mostEngines(0) without b", x.mostEngines(0), 2);
        Check.due("mostEngines(1) without b", x.mostEngines(1), 1);
        x.excuse(1, false);
        x.setService(2, false);
        Check.due("mostEngines(0) without i", x.mostEngines(0), 2);
        x.setService(2, true);
        x.call(0);
        Check.due("mostEngines(0) after it came", x.mostEngines(0), 0);
        Check.passTo(x, 642);
        Check.due("mostEngines(0) when i is back", x.mostEngines(0), 1);
        // The best three of four are not the first ones, and each has to do without what another one needs.
        BrigadePagers y = byDay(NIGHT + "person a 1 driver medic;person b 1 driver chief;person c 1 medic smoke;"
                + "pager p 0 24 a;pager q 0 24 b;pager r 0 24 c;engine g 5 any any any;engine h 5 driver;engine i 5 medic;"
                + "engine j 5 driver;kind k 9 240 1:p q r:g h i j;kind l 9 240 3:p q r:h i j;kind m 9 240 1:q r:i;"
                + "kind n 9 240 1:q r:h j;");
        Check.due("mostEngines(0) of four", y.mostEngines(0), 3);
        Check.due("whyStays(0, 0)", y.whyStays(0, 0), 0);
        Check.due("mostEngines(1)", y.mostEngines(1), 3);
        Check.due("mostEngines(2)", y.mostEngines(2), 1);
        Check.due("mostEngines(3)", y.mostEngines(3), 1);
        for (int kind : NO_KINDS) {
            Check.refusedUnchanged("mostEngines(" + kind + ")", NO_INDEX, x, () -> x.mostEngines(kind));
        }
    }

    private static void hours(BrigadePagers x, int time, int kind, int want) {
        Check.passTo(x, time);
        String before = Snapshot.of(x);
        if (want == BrigadePagers.NONE) {
            Check.refused("hoursUntilAnswered(" + kind + ") at " + time, NONE_SUCH, () -> x.hoursUntilAnswered(kind));
        } else {
            Check.due("hoursUntilAnswered(" + kind + ") at " + time, x.hoursUntilAnswered(kind), want);
        }
        Check.due("all after it", Snapshot.of(x), before);
    }

    private static void hoursByTurns() {
        Check.part("promise 43, turns");
        BrigadePagers x = Check.brigade(NIGHT + "person a 1;person b 1;pager p 0 3 a b;pager q 0 48 a b;pager r 0 49 a b;"
                + "pager s 0 168 a;engine e 5 any;kind k 9 240 1:p:e;kind l 9 240 1:q:e;kind m 9 240 1:r:e;kind n 9 240 1:s:e;");
        hours(x, 0, 0, 0);
        x.excuse(0, true);
        hours(x, 0, 0, 3);
        hours(x, 0, 1, 48);
        hours(x, 0, 2, BrigadePagers.NONE);
        hours(x, 0, 3, BrigadePagers.NONE);
        hours(x, 1, 0, 3);
        hours(x, 59, 0, 3);
        hours(x, 60, 0, 2);
        hours(x, 60, 1, 47);
        hours(x, 60, 2, 48);
        hours(x, 180, 0, 0);
        x.handOn(3, 1, 300);
        hours(x, 180, 3, 0);
        x.excuse(0, false);
        x.excuse(1, true);
        hours(x, 180, 3, 2);
        hours(x, 181, 3, 2);
        hours(x, 240, 3, 1);
        // At the last time pagers p and q have turns 112 and 7.
        hours(x, 20160, 0, 0);
        hours(x, 20160, 1, 48);
        x.excuse(0, true);
        hours(x, 20160, 1, BrigadePagers.NONE);
        for (int kind : new int[] {-1, 4, 6, Integer.MIN_VALUE, Integer.MAX_VALUE}) {
            Check.refusedUnchanged("hoursUntilAnswered(" + kind + ")", NO_INDEX, x, () -> x.hoursUntilAnswered(kind));
        }
    }

    private static void hoursByReturns() {
        Check.part("promise 43, returns");
        BrigadePagers x = Check.brigade(NIGHT + "person a 0;person b 0;pager p 0 168 a;pager q 0 168 b;engine e 60 any;"
                + "engine f 0 any;kind k 60 240 1:p:e;kind l 61 240 1:p:f;kind m 10 240 1:q:e f;kind n 9 240 1:q:e;");
        x.pass(600);
        x.call(0);
        hours(x, 600, 0, 3);
        hours(x, 600, 1, 3);
        hours(x, 600, 2, 0);
        hours(x, 600, 3, 3);
        hours(x, 601, 3, 3);
        hours(x, 660, 3, 2);
        x.setService(1, false);
        hours(x, 660, 2, 2);
        hours(x, 780, 3, 0);
        hours(x, 780, 1, BrigadePagers.NONE);
        x.setService(1, true);
        x.call(1);
        hours(x, 780, 1, 2);
        Check.passTo(x, 20159);
        x.call(0);
        hours(x, 20160, 0, 4);
    }

    /** Whoever is tired rests by night only; a wake time keeps b away for the night. */
    private static void hoursByRest() {
        Check.part("promise 43, rest");
        BrigadePagers x = Check.brigade("night 22 6 5 61;person a 0;person b 10;pager p 0 168 a;pager q 0 168 b;"
                + "engine e 0 any;kind k 175 240 1:p:e;kind l 9 12 1:q:e;");
        x.pass(180);
        x.call(0);
        x.pass(180);
        Check.due("lostSleep(0)", x.lostSleep(0), 180);
        // 60 are due: 120 more minutes of the night that begins at 1320.
        hours(x, 360, 0, 18);
        hours(x, 361, 0, 18);
        hours(x, 300 + 61, 1, 0);
        hours(x, 1320, 1, 8);
        hours(x, 1320, 0, 2);
        x.pass(1);
        hours(x, 1321, 0, 2);
        hours(x, 1439, 0, 1);
        hours(x, 1440, 0, 0);
    }

    private static void helps(BrigadePagers x, int kind, int pager, int person) {
        String before = Snapshot.of(x);
        Check.due("helpfulPager(" + kind + ")", x.helpfulPager(kind), pager);
        Check.due("helpfulPerson(" + kind + ")", x.helpfulPerson(kind), person);
        Check.due("all after it", Snapshot.of(x), before);
        x.handOn(pager, person, x.holdingEnd(pager));
        Check.due("wouldAnswer(" + kind + ") after it", x.wouldAnswer(kind), true);
        x.undo();
    }

    private static void helpsNot(Class<? extends RuntimeException> want, BrigadePagers x, int kind) {
        Check.refusedUnchanged("helpfulPager(" + kind + ")", want, x, () -> x.helpfulPager(kind));
        Check.refusedUnchanged("helpfulPerson(" + kind + ")", want, x, () -> x.helpfulPerson(kind));
    }

    private static final String HELP = NIGHT + "person a 1;person b 1;person c 1 driver;person d 1 driver;person e 1 medic;"
            + "trust a d 5;trust b c 4;trust b d 5;trust c e 9;"
            + "pager o 0 24 a;pager p 5 24 a;pager q 5 24 b;pager r 0 24 c;engine e 5 driver;engine f 5 driver;engine g 5 smoke;"
            + "kind k 9 240 1:p:e;kind l 9 240 1:q:e;kind m 9 240 2:q r:e f;kind n 9 240 1:p q r:g;kind o 9 240 1:q p:e;";

    private static void helpful() {
        Check.part("promises 44 and 45");
        BrigadePagers x = Check.brigade(HELP);
        helps(x, 0, 1, 3);
        helps(x, 1, 2, 3);
        helps(x, 2, 2, 3);
        helps(x, 4, 1, 3);
        x.setTrust(1, 2, 5);
        helps(x, 1, 2, 2);
        // c holds r already, so another driver has to come for the second engine.
        helps(x, 2, 2, 3);
        x.excuse(2, true);
        helps(x, 1, 2, 3);
        x.handOn(2, 3, 300);
        helpsNot(NO_STATE, x, 1);
        x.giveBack(2);
        x.setTrust(0, 3, 4);
        helpsNot(NONE_SUCH, x, 0);
        helps(x, 4, 2, 3);
        // A hand-on that can help is refused by what the chain says.
        x.excuse(2, false);
        x.setTrust(1, 4, 9);
        x.handOn(2, 4, 600);
        helpsNot(NONE_SUCH, x, 1);
        x.setTrust(4, 2, 5);
        helps(x, 1, 2, 2);
    }

    private static void helpfulRefused() {
        Check.part("promises 44 and 45, refused");
        BrigadePagers x = Check.brigade(HELP);
        helpsNot(NONE_SUCH, x, 3);
        x.handOn(1, 3, 600);
        helpsNot(NO_STATE, x, 0);
        for (int kind : new int[] {-1, 5, 6, Integer.MIN_VALUE, Integer.MAX_VALUE}) {
            helpsNot(NO_INDEX, x, kind);
        }
        x.pass(600);
        helps(x, 0, 1, 3);
        x.setService(0, false);
        helpsNot(NONE_SUCH, x, 0);
        x.setService(0, true);
        x.excuse(3, true);
        helpsNot(NONE_SUCH, x, 0);
        BrigadePagers z = Check.brigade(NIGHT + "person a 1 driver;person b 1;pager p 0 24 b;engine e 5 driver;"
                + "kind k 9 240 1:p:e;");
        helps(z, 0, 0, 0);
        // A hand-on can also take the one pager away from a person who is needed, which is no help.
        BrigadePagers y = Check.brigade(NIGHT + "person a 1 driver;person b 1 medic;pager p 0 24 a;engine e 5 driver medic;"
                + "kind k 9 240 1:p:e;");
        helpsNot(NONE_SUCH, y, 0);
    }
}
