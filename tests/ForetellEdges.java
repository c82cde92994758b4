import java.util.NoSuchElementException;

/** The boundary cases of the promises 36 to 45. */
final class ForetellEdges {
    private static final String NIGHT = Scenes.NIGHT;
    /** One engine with six posts, and just as many who come. */
    private static final String SIX = NIGHT + Texts.many("person ", 6, " 1;") + "pager p 0 24 a;pager q 0 24 b;pager r 0 24 c;"
            + "pager s 0 24 d;pager t 0 24 e;pager u 0 24 f;engine e 5 any any any any any any;kind k 9 240 1:p q r s t u:e;";
    private static final Class<IndexOutOfBoundsException> NO_INDEX = IndexOutOfBoundsException.class;
    private static final Class<IllegalStateException> NO_STATE = IllegalStateException.class;
    private static final Class<NoSuchElementException> NONE_SUCH = NoSuchElementException.class;

    private ForetellEdges() {
    }

    static void run() {
        whyAbsentAndStays();
        departure();
        mans();
        manned();
        mannedBefore();
        mostEngines();
        hoursUntilAnswered();
        hoursByReturns();
        hoursBySleep();
        notWithinHours();
        helpful();
        helpfulIsPossible();
        helpfulRefused();
    }

    private static BrigadePagers at(int time, String text) {
        BrigadePagers x = Check.brigade(text);
        Check.passTo(x, time);
        return x;
    }

    private static void whyAbsentAndStays() {
        Sentence.of(36, "Returns the reason, 1 to 5; 0 if the person would come.");
        String text = NIGHT + "person a 4;person b 5;pager p 0 24 a;pager q 0 24 b;engine e 5 any;engine f 5 any any;"
                + "kind k 9 4 1:p q:e f;kind l 9 240 1:p:f e;";
        BrigadePagers x = Scenes.byDay(text);
        Check.due("whyAbsent(0, 0)", x.whyAbsent(0, 0), 0);
        Check.due("whyAbsent(0, 1)", x.whyAbsent(0, 1), 5);
        Check.due("whyAbsent(1, 1)", x.whyAbsent(1, 1), 1);
        Sentence.of(37, "Returns the reason, 1 to 3; 0 if it would leave.");
        Check.due("whyStays(0, 0)", x.whyStays(0, 0), 0);
        Check.due("whyStays(0, 1)", x.whyStays(0, 1), 3);
        x.setService(1, false);
        Check.due("whyStays(0, 1)", x.whyStays(0, 1), 1);
        Sentence.of(37, "`index`: 0 for the first engine that the kind names");
        x.setService(1, true);
        x.setService(0, false);
        Check.due("whyStays(0, 0), e", x.whyStays(0, 0), 1);
        Check.due("whyStays(1, 0), f", x.whyStays(1, 0), 3);
        Check.due("whyStays(1, 1), e", x.whyStays(1, 1), 1);
        Check.due("whyStays(4, 4) of five", Scenes.full().whyStays(4, 4), 3);
    }

    private static BrigadePagers stays(int reason) {
        BrigadePagers x = Scenes.byDay(Scenes.TEXT);
        if (reason == 1) {
            x.setService(0, false);
        } else if (reason == 2) {
            x.call(0);
        } else {
            x.excuse(0, true);
        }
        Check.put(x, "c");
        return x;
    }

    private static void departure() {
        Sentence.of(38, "Returns the greatest arrival time in its crew.");
        String text = NIGHT + "person a 0;person b 120;person c 7;pager p 0 24 a;pager q 0 24 b;pager r 0 24 c;engine e 5 any;"
                + "engine f 5 any any;kind k 9 240 1:p q r:e f;kind l 9 240 1:p q r:f e;kind m 9 240 1:q:e;";
        BrigadePagers x = Scenes.byDay(text);
        Check.due("departure(0, 0)", x.departure(0, 0), 0);
        Check.due("departure(0, 1)", x.departure(0, 1), 120);
        Check.due("departure(2, 0) by night", Check.brigade(text).departure(2, 0), 125);
        Sentence.of(38, "`index`: 0 for the first engine that the kind names");
        Check.due("departure(1, 0)", x.departure(1, 0), 7);
        Check.due("departure(1, 1)", x.departure(1, 1), 120);
        Sentence.of(38, "Throws `IllegalStateException` if the engine would not leave");
        for (int reason = 1; reason <= 3; reason++) {
            int why = reason;
            Check.due("whyStays(0, 0)", stays(reason).whyStays(0, 0), reason);
            Refusal.due("departure with reason " + reason, NO_STATE, () -> stays(why), y -> y.departure(0, 0));
        }
        Check.due("departure of one that would leave, of a call not answered", Scenes.byDay(Scenes.TEXT).departure(0, 0), 6);
    }

    private static void ways(String skillsOfB, String posts, int... persons) {
        BrigadePagers x = Scenes.byDay(NIGHT + "person a 9 driver smoke;person b 9" + skillsOfB
                + ";person c 9 chief driver;person d 9 medic smoke;pager p 0 24 a;pager q 0 24 b;pager r 0 24 c;pager s 0 24 d;"
                + "engine g 10 " + posts + ";kind k 30 240 1:p q r s:g;");
        for (int post = 0; post < persons.length; post++) {
            Check.due("mans(0, 0, " + post + ") of " + posts, x.mans(0, 0, post), persons[post]);
        }
        for (int post : new int[] {-1, persons.length, 6, Integer.MIN_VALUE, Integer.MAX_VALUE}) {
            Check.refused("mans(0, 0, " + post + ") of " + posts, NO_INDEX, () -> x.mans(0, 0, post));
        }
    }

    private static void mans() {
        Sentence.of(39, "of all ways in which the crew can man the posts, the first one, if they are compared by the person of post 0, "
                + "then by that of post 1, and so on.");
        ways("", "any", 0);
        ways("", "any any", 0, 1);
        ways("", "any driver any any", 0, 2, 1, 3);
        ways("", "any any any driver", 0, 1, 3, 2);
        ways(" driver", "any driver any driver", 0, 1, 3, 2);
        ways("", "driver driver any any", 0, 2, 1, 3);
        ways("", "smoke any any smoke", 0, 1, 2, 3);
        ways("", "any smoke any smoke", 1, 0, 2, 3);
        ways(" medic", "any medic smoke any", 0, 1, 3, 2);
        ways("", "any chief", 0, 2);
        ways("", "any any chief medic", 0, 1, 2, 3);
        ways(" chief", "any driver chief any", 0, 2, 1, 3);
        Sentence.of(39, "`index`: 0 for the first engine that the kind names");
        BrigadePagers x = Scenes.full();
        for (int index = 0; index < 5; index++) {
            Check.due("mans(0, " + index + ", 0)", x.mans(0, index, 0), 2 * index);
            Check.due("mans(1, " + index + ", 0)", x.mans(1, index, 0), index == 0 ? 8 : 2 * index - 2);
        }
        Sentence.of(39, "Throws `IndexOutOfBoundsException` if there is no such kind, it has no such engine, "
                + "or the engine has no such post");
        BrigadePagers six = Scenes.byDay(SIX);
        for (int post = 0; post < 6; post++) {
            Check.due("mans(0, 0, " + post + ") of six", six.mans(0, 0, post), post);
        }
        Check.refused("mans(0, 0, 6) of six", NO_INDEX, () -> six.mans(0, 0, 6));
        for (int post : new int[] {-1, 2, 5, 6, Integer.MIN_VALUE, Integer.MAX_VALUE}) {
            Refusal.due("mans(0, 0, " + post + ")", NO_INDEX, () -> Scenes.busy(), y -> y.mans(0, 0, post));
            Refusal.due("mans(0, 0, " + post + ") of an engine that stays", NO_INDEX, () -> stays(3), y -> y.mans(0, 0, post));
        }
        Sentence.of(39, "Throws `IllegalStateException` if the engine would not leave");
        for (int reason = 1; reason <= 3; reason++) {
            int why = reason;
            Refusal.due("mans with reason " + reason, NO_STATE, () -> stays(why), y -> y.mans(0, 0, 0));
            Refusal.due("mans of the last post with reason " + reason, NO_STATE, () -> stays(why), y -> y.mans(0, 0, 1));
        }
    }

    private static void manned() {
        Sentence.of(40, "Returns the greatest number of posts of an engine that could be manned "
                + "(each by another person, who has its skill) ");
        String text = NIGHT + "person a 1 chief medic;person b 1 chief;person c 1;pager p 0 24 a;pager q 0 24 b;pager r 0 24 c;";
        String[] posts = {"smoke", "smoke driver", "chief", "chief chief", "chief chief chief", "medic medic", "medic chief",
            "chief medic any", "chief chief medic", "any any any any any any", "smoke smoke any any any any", "medic any smoke"};
        int[] due = {0, 0, 1, 2, 2, 1, 2, 3, 2, 3, 3, 2};
        for (int at = 0; at < posts.length; at++) {
            BrigadePagers x = Scenes.byDay(text + "engine e 5 " + posts[at] + ";kind k 9 240 1:p q r:e;");
            Check.due("manned(0, 0) of " + posts[at], x.manned(0, 0), due[at]);
            for (int person = 0; person < 3; person++) {
                x.excuse(person, true);
            }
            Check.due("manned(0, 0) by nobody of " + posts[at], x.manned(0, 0), 0);
        }
        BrigadePagers six = Scenes.byDay(SIX);
        Check.due("manned(0, 0), all six", six.manned(0, 0), 6);
    }

    private static void mannedBefore() {
        Sentence.of(40, "by those who would come and would not be in the crew of an engine that the kind names before this one.");
        String text = NIGHT + "person a 1 chief;person b 1;pager p 0 24 a;pager q 0 24 b;engine e 5 any;engine f 5 chief any;"
                + "engine g 5 any any any;kind k 9 240 1:p q:e f g;kind l 9 240 1:p q:g f e;kind m 9 240 1:q:f;";
        BrigadePagers x = Scenes.byDay(text);
        int[][] due = {{1, 1, 1}, {2, 2, 0}};
        for (int kind = 0; kind < 2; kind++) {
            for (int index = 0; index < 3; index++) {
                Check.due("manned(" + kind + ", " + index + ")", x.manned(kind, index), due[kind][index]);
            }
        }
        Check.due("manned(2, 0), whose chief holds another pager", x.manned(2, 0), 1);
        Sentence.of(40, "`index`: 0 for the first engine that the kind names");
        Check.due("manned(0, 0), e", x.manned(0, 0), 1);
        Check.due("manned(1, 0), g", x.manned(1, 0), 2);
        Sentence.of(40, "Whether this engine is out or out of service does not matter.");
        x.setService(1, false);
        Check.due("manned(1, 1) of one out of service", x.manned(1, 1), 2);
        Check.due("manned(1, 2) behind it", x.manned(1, 2), 1);
        x.setService(1, true);
        x.handOn(0, 1, 700);
        x.call(0);
        Check.due("returnsAt(0)", x.returnsAt(0), 620);
        x.giveBack(0);
        Check.due("manned(0, 0) of one that is out", x.manned(0, 0), 1);
        Check.due("manned(0, 1) behind it", x.manned(0, 1), 1);
    }

    private static void mostEngines() {
        Sentence.of(42, "Returns the greatest number of engines of a kind, in service and not out, that could leave together "
                + "if their crews could be chosen freely among all who would come (no person in two crews).");
        BrigadePagers full = Scenes.full();
        int[] due = {5, 5, 0, 0, 1, 2};
        for (int kind = 0; kind < 6; kind++) {
            Check.due("mostEngines(" + kind + ")", full.mostEngines(kind), due[kind]);
        }
        for (int engine = 0; engine < 5; engine++) {
            full.setService(engine, false);
            Check.due("mostEngines(0) without " + (engine + 1), full.mostEngines(0), 4 - engine);
        }
        String text = NIGHT + "person a 1 chief;person b 1;pager p 0 24 a;pager q 0 24 b;engine e 5 any;engine f 5 chief;"
                + "engine g 5 any any;kind k 9 240 1:p q:e f;kind l 9 240 1:p q:g e f;kind m 9 240 1:p q:e g;kind n 9 240 1:p:e f;"
                + "kind o 9 240 1:p q:e f g;";
        BrigadePagers x = Scenes.byDay(text);
        Check.due("whyStays(0, 1), as the kind says", x.whyStays(0, 1), 3);
        Check.due("mostEngines(0), chosen freely", x.mostEngines(0), 2);
        Check.due("mostEngines(1), without the greedy one", x.mostEngines(1), 2);
        Check.due("mostEngines(4), with the greedy one last", x.mostEngines(4), 2);
        Check.due("mostEngines(2), no person in two crews", x.mostEngines(2), 1);
        Check.due("mostEngines(3), only those who would come", x.mostEngines(3), 1);
        x.call(0);
        Check.due("mostEngines(1) when e is out with a", x.mostEngines(1), 0);
        x.pass(19);
        Check.due("mostEngines(1) a minute before the return", x.mostEngines(1), 0);
        x.pass(1);
        Check.due("mostEngines(1) at the return", x.mostEngines(1), 2);
    }

    // ---- hours

    private static void hours(int due, BrigadePagers x, int kind) {
        if (due == BrigadePagers.NONE) {
            Check.refused("hoursUntilAnswered(" + kind + ") at " + x.time(), NONE_SUCH, () -> x.hoursUntilAnswered(kind));
        } else {
            Check.due("hoursUntilAnswered(" + kind + ") at " + x.time(), x.hoursUntilAnswered(kind), due);
        }
    }

    private static BrigadePagers waiting(int time) {
        BrigadePagers x = at(time, NIGHT + "person a 1;person b 1;pager p 0 48 a b;pager q 0 49 a b;pager r 0 1 a b;"
                + "engine e 5 any;kind k 9 240 1:p:e;kind l 9 240 1:q:e;kind m 9 240 1:r:e;");
        x.excuse(0, true);
        return x;
    }

    private static void hoursUntilAnswered() {
        Sentence.of(43, "Returns the least number of hours, 0 to 48, after which a call would be answered "
                + "if so many hours passed (also beyond the time 20160) and nothing else happened; ");
        BrigadePagers x = waiting(0);
        hours(48, x, 0);
        hours(BrigadePagers.NONE, x, 1);
        hours(1, x, 2);
        x.excuse(0, false);
        for (int kind = 0; kind < 3; kind++) {
            hours(0, x, kind);
        }
        hours(48, waiting(59), 0);
        hours(BrigadePagers.NONE, waiting(59), 1);
        hours(47, waiting(60), 0);
        hours(48, waiting(60), 1);
        hours(1, waiting(59), 2);
        hours(0, waiting(60), 2);
        hours(0, waiting(119), 2);
        hours(1, waiting(120), 2);
        // Turn 7 of p begins at 20160, turn 7 of q at 20580.
        hours(48, waiting(17280), 0);
        hours(0, waiting(20160), 0);
        hours(7, waiting(20160), 1);
        hours(1, waiting(20160), 2);
        BrigadePagers other = waiting(20160);
        other.excuse(1, true);
        other.excuse(0, false);
        hours(48, other, 0);
    }

    private static void hoursByReturns() {
        Sentence.of(43, "persons and engines that return, hand-ons and turns that end, nights and lost sleep are as they would be then.");
        // Person and engine are back after 60 minutes, after 61, and not.
        String text = "night 22 6 5 999;person a 0;person b 0;pager p 0 168 a;pager q 0 168 b;engine e 0 any;"
                + "kind k # 240 1:p:e;kind l 9 240 1:q:e;";
        for (int duration : new int[] {1, 59, 60, 61, 119, 120, 121, 999}) {
            for (int kind = 0; kind < 2; kind++) {
                BrigadePagers x = Scenes.byDay(text.replace("#", "" + duration));
                x.call(0);
                hours((duration + 59) / 60, x, kind);
                Check.due("time() after it", x.time(), 600);
            }
        }
        // A hand-on to one who is excused is over after 60 minutes, and after 61.
        for (int end : new int[] {601, 660, 661, 720}) {
            BrigadePagers x = Scenes.byDay(text.replace("#", "9"));
            x.handOn(0, 1, end);
            x.excuse(1, true);
            hours((end - 600 + 59) / 60, x, 0);
        }
        // By night b wakes too late; the night ends at 360.
        String late = NIGHT + "person a 0;person b 10;pager p 0 168 b;engine e 0 any;kind k 9 12 1:p:e;";
        int[][] due = {{0, 6}, {1, 6}, {59, 6}, {60, 5}, {300, 1}, {359, 1}, {360, 0}, {1319, 0}, {1320, 8}, {20160, 6}};
        for (int[] row : due) {
            hours(row[1], at(row[0], late), 0);
        }
    }

    private static void hoursBySleep() {
        String text = "night 22 6 0 30;person a 0;pager p 0 168 a;engine e 0 any;kind k # 240 1:p:e;";
        // Tired after 60 minutes of night out, a is rested again 31 minutes later.
        BrigadePagers x = Check.brigade(text.replace("#", "60"));
        x.call(0);
        x.pass(60);
        hours(1, x, 0);
        x.pass(30);
        hours(1, x, 0);
        x.pass(1);
        hours(0, x, 0);
        // 90 minutes lost at 360, of which the next night takes away 61 at 1381.
        BrigadePagers y = at(270, text.replace("#", "90"));
        y.call(0);
        Check.passTo(y, 360);
        Check.due("lostSleep(0)", y.lostSleep(0), 90);
        hours(18, y, 0);
        y.pass(20);
        hours(17, y, 0);
        y.pass(1);
        hours(17, y, 0);
        y.pass(19);
        hours(17, y, 0);
        BrigadePagers z = at(20160, text.replace("#", "60"));
        z.call(0);
        hours(2, z, 0);
    }

    private static void notWithinHours() {
        Sentence.of(43, "Throws `NoSuchElementException` if it would be answered after none of them");
        Refusal.due("hoursUntilAnswered(1), after 49", NONE_SUCH, () -> waiting(0), x -> x.hoursUntilAnswered(1));
        Refusal.due("hoursUntilAnswered(1), after 48 and a minute", NONE_SUCH, () -> waiting(59), x -> x.hoursUntilAnswered(1));
        Refusal.due("hoursUntilAnswered(1), never", NONE_SUCH, () -> Scenes.busy(), x -> x.hoursUntilAnswered(1));
        Refusal.due("hoursUntilAnswered(0) when all are excused", NONE_SUCH, () -> {
            BrigadePagers x = waiting(20160);
            x.excuse(1, true);
            return x;
        }, x -> x.hoursUntilAnswered(0));
    }

    // ---- helpful hand-ons

    private static final String HELP = NIGHT + "person a 1;person b 1;person c 1 driver;person d 1 driver;"
            + "trust a d 5;trust b d 5;trust b c 5;pager p 5 10 a;pager q 5 10 b;engine e 5 driver;engine f 5 smoke;"
            + "kind k 9 240 1:p:e;kind l 9 240 1:q p:e;kind m 9 240 1:p q:f;kind n 9 240 1:q:e;";

    private static void helps(BrigadePagers x, int kind, int pager, int person) {
        Check.due("helpfulPager(" + kind + ")", x.helpfulPager(kind), pager);
        Check.due("helpfulPerson(" + kind + ")", x.helpfulPerson(kind), person);
        Check.due("handOns(" + pager + ") after it", x.handOns(pager), 0);
    }

    private static void helpful() {
        Sentence.of(44, "of several the one of the lowest pager, and of these the one to the lowest person.");
        helps(Check.brigade(HELP), 0, 0, 3);
        helps(Check.brigade(HELP), 1, 0, 3);
        helps(Check.brigade(HELP), 3, 1, 2);
        BrigadePagers x = Check.brigade(HELP);
        x.setTrust(0, 2, 5);
        helps(x, 0, 0, 2);
        helps(x, 1, 0, 2);
        x.excuse(2, true);
        helps(x, 3, 1, 3);
        helps(Scenes.full(), 2, 0, 8);
        helps(Scenes.full(), 3, 5, 8);
        // The lowest person of all.
        helps(Check.brigade(Scenes.NIGHT + "person a 1 driver;person b 1;person c 1 driver;pager p 0 1 b;pager q 0 1 b;"
                + "engine e 5 driver;kind k 9 240 1:q:e;"), 0, 1, 0);
        Sentence.of(45, "Returns the person to whom the helpful hand-on of helpfulPager() goes.");
        BrigadePagers full = Scenes.full();
        full.excuse(8, true);
        helps(full, 2, 0, 11);
        helps(full, 3, 5, 11);
    }

    private static void helpfulIsPossible() {
        Sentence.of(44, "A helpful hand-on is a possible hand-on of a pager to a person, up to the holding end of the pager, "
                + "after which a call would be answered; ");
        BrigadePagers x = Check.brigade(HELP);
        x.setTrust(1, 2, 4);
        helps(x, 3, 1, 3);
        x.setTrust(1, 3, 4);
        Check.refused("helpfulPager(3), when nobody is trusted", NONE_SUCH, () -> x.helpfulPager(3));
        x.setTrust(1, 3, 5);
        Check.passTo(x, 599);
        helps(x, 3, 1, 3);
        x.handOn(1, 3, 600);
        Check.due("wouldAnswer(3) after the last minute's hand-on", x.wouldAnswer(3), true);
        // Up to the holding end: a hand-on that was there before makes it earlier.
        BrigadePagers y = Check.brigade(HELP);
        y.setTrust(0, 1, 5);
        y.setTrust(1, 3, 5);
        y.handOn(0, 1, 30);
        Check.due("helpfulPager(0)", y.helpfulPager(0), 0);
        Check.due("helpfulPerson(0)", y.helpfulPerson(0), 3);
        y.handOn(0, 3, 30);
        Check.due("wouldAnswer(0)", y.wouldAnswer(0), true);
        // With three hand-ons nothing is possible any more.
        BrigadePagers z = Check.brigade(NIGHT + "person a 1;person b 1;person c 1;person d 1;person e 1 driver;pager p 0 10 a;"
                + "engine e 5 driver;kind k 9 240 1:p:e;");
        z.handOn(0, 1, 600);
        z.handOn(0, 2, 600);
        Check.due("helpfulPerson(0) with two", z.helpfulPerson(0), 4);
        z.handOn(0, 3, 600);
        Check.refused("helpfulPerson(0) with three", NONE_SUCH, () -> z.helpfulPerson(0));
    }

    private static void helpsNot(Class<? extends RuntimeException> want, Refusal.Scene scene, int kind) {
        Refusal.due("helpfulPager(" + kind + ")", want, scene, x -> x.helpfulPager(kind));
        Refusal.due("helpfulPerson(" + kind + ")", want, scene, x -> x.helpfulPerson(kind));
    }

    private static BrigadePagers handed() {
        BrigadePagers x = Check.brigade(HELP);
        x.handOn(0, 3, 600);
        return x;
    }

    private static BrigadePagers excused() {
        BrigadePagers x = Check.brigade(HELP);
        x.excuse(2, true);
        x.excuse(3, true);
        return x;
    }

    private static void helpfulRefused() {
        for (int promise = 44; promise <= 45; promise++) {
            Sentence.of(promise, "Throws `IllegalStateException` if the call would be answered without it");
            helpsNot(NO_STATE, () -> handed(), 0);
            helpsNot(NO_STATE, () -> handed(), 1);
            Sentence.of(promise, "Throws `NoSuchElementException` if there is no helpful hand-on");
            helpsNot(NONE_SUCH, () -> handed(), 2);
            helpsNot(NONE_SUCH, () -> excused(), 0);
            helpsNot(NONE_SUCH, () -> excused(), 3);
            helpsNot(NONE_SUCH, () -> Scenes.busy(), 0);
        }
        BrigadePagers full = Scenes.full();
        for (int person = 0; person < 12; person++) {
            full.excuse(person, true);
        }
        for (int kind = 0; kind < 6; kind++) {
            int asked = kind;
            Check.refused("helpfulPager(" + kind + ") when all are excused", NONE_SUCH, () -> full.helpfulPager(asked));
            Check.refused("helpfulPerson(" + kind + ") when all are excused", NONE_SUCH, () -> full.helpfulPerson(asked));
        }
    }
}
