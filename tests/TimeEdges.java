import java.util.NoSuchElementException;

/** The boundary cases of NIGHT AND SLEEP and the promises 9 to 18. */
final class TimeEdges {
    private static final int TERMS = Sentence.TERMS;
    /** Without a wake time: a is out for 4 minutes by kind k, b for 10 by kind l; with 3 minutes lost a person is tired. */
    private static final String SLEEP = "night 22 6 0 3;person a 0;person b 0;pager p 0 24 a;pager q 0 24 b;"
            + "engine e 0 any;engine f 0 any;kind k 4 240 1:p:e;kind l 10 240 1:q:f;";
    private static final Class<IllegalArgumentException> NO_ARGUMENT = IllegalArgumentException.class;
    private static final Class<NoSuchElementException> NONE_SUCH = NoSuchElementException.class;

    private TimeEdges() {
    }

    static void run() {
        nights();
        lostSleep();
        tired();
        time();
        nightMinutes();
        outUntil();
        lostSleepAfter();
        restedAt();
        arrivalAndPay();
        trust();
        trustPath();
    }

    private static BrigadePagers at(int time, String text) {
        BrigadePagers x = Check.brigade(text);
        Check.passTo(x, time);
        return x;
    }

    private static void nights() {
        Sentence.of(TERMS, "If the night begins in hour b and ends in hour e, the minute that begins at a time is a night minute "
                + "if the hour of the time is one of b, b + 1 and so on, up to but not including e, counted modulo 24.");
        int[][] pairs = {{22, 6}, {1, 3}, {23, 0}, {0, 23}, {0, 1}, {5, 4}, {23, 22}, {11, 12}, {12, 11}, {1, 0}};
        for (int[] pair : pairs) {
            BrigadePagers x = Check.brigade("night " + pair[0] + " " + pair[1] + " 5 240;");
            boolean[] isNight = new boolean[24];
            for (int hour = pair[0]; hour != pair[1]; hour = (hour + 1) % 24) {
                isNight[hour] = true;
            }
            for (int hour = 0; hour < 24; hour++) {
                int due = isNight[hour] ? 1 : 0;
                for (int from : new int[] {60 * hour, 1440 * 13 + 60 * hour}) {
                    Check.due("the first minute of hour " + hour, x.nightMinutes(from, from + 1), due);
                    Check.due("the last minute of hour " + hour, x.nightMinutes(from + 59, from + 60), due);
                    Check.due("hour " + hour, x.nightMinutes(from, from + 60), 60 * due);
                }
            }
        }
    }

    /** Passes minute by minute. */
    private static void lostIs(BrigadePagers x, int person, int... due) {
        for (int minutes : due) {
            x.pass(1);
            Check.due("lostSleep(" + person + ") at " + x.time(), x.lostSleep(person), minutes);
        }
    }

    private static void lostSleep() {
        Sentence.of(TERMS, "Each person has lost some sleep, 0 minutes at first.");
        BrigadePagers full = Scenes.full();
        for (int person = 0; person < 12; person++) {
            Check.due("lostSleep(" + person + ")", full.lostSleep(person), 0);
        }
        BrigadePagers again = Check.brigade(SLEEP);
        again.call(0);
        again.pass(4);
        Check.put(again, SLEEP);
        again.load();
        Check.due("lostSleep(0) after load()", again.lostSleep(0), 0);

        Sentence.of(TERMS, "Whenever a night minute passes, the lost sleep of each person who is out at its beginning grows by 1, ");
        BrigadePagers x = Check.brigade(SLEEP);
        x.call(0);
        x.call(1);
        lostIs(x, 0, 1, 2, 3, 4, 3);
        Check.due("lostSleep(1), of another one who is out", x.lostSleep(1), 5);
        x = at(358, SLEEP);
        x.call(1);
        lostIs(x, 1, 1, 2, 2, 2, 2, 2, 2, 2, 2, 2, 2);
        x = at(1318, SLEEP);
        x.call(0);
        lostIs(x, 0, 0, 0, 1, 2, 1, 0, 0);
        x = at(1439, SLEEP);
        x.call(0);
        lostIs(x, 0, 1, 2, 3, 4, 3);

        Sentence.of(TERMS, "and that of each other person falls by 1, but not below 0.");
        x = Check.brigade(SLEEP);
        x.call(0);
        x.pass(4);
        lostIs(x, 0, 3, 2, 1, 0, 0, 0);
        Check.due("lostSleep(1), of one who was never out", x.lostSleep(1), 0);
        x = at(358, SLEEP);
        x.call(0);
        lostIs(x, 0, 1, 2, 2, 2, 2);
        Check.passTo(x, 1320);
        Check.due("lostSleep(0) after a day without a night", x.lostSleep(0), 2);
        lostIs(x, 0, 1, 0, 0);
        x = Check.brigade(SLEEP);
        x.call(0);
        x.pass(1440);
        Check.due("lostSleep(0) after a day in one step", x.lostSleep(0), 0);
    }

    private static void tired() {
        Sentence.of(TERMS, "A person is tired if the lost sleep is equal to the sleep limit or greater.");
        BrigadePagers x = Check.brigade(SLEEP);
        x.call(0);
        x.pass(4);
        int[] reasons = {4, 4, 0, 0};
        for (int at = 0; at < 4; at++) {
            Check.due("whyAbsent(0, 0) with " + x.lostSleep(0) + " minutes lost", x.whyAbsent(0, 0), reasons[at]);
            Check.due("whyNotHandOn to one with so many", x.whyNotHandOn(1, 0, 5 + x.time()), reasons[at] == 4 ? 5 : 0);
            x.pass(1);
        }
        BrigadePagers least = Check.brigade(SLEEP.replace("0 3;", "0 1;"));
        least.call(0);
        Check.passTo(least, 7);
        Check.due("whyAbsent with 1 lost, of 1", least.whyAbsent(0, 0), 4);
        least.pass(1);
        Check.due("whyAbsent with 0 lost, of 1", least.whyAbsent(0, 0), 0);
        BrigadePagers greatest = Check.brigade(SLEEP.replace("22 6 0 3;", "0 23 0 999;").replace("k 4", "k 999"));
        greatest.call(0);
        greatest.pass(999);
        Check.due("whyAbsent with 999 lost, of 999", greatest.whyAbsent(0, 0), 4);
        greatest.pass(1);
        Check.due("whyAbsent with 998 lost, of 999", greatest.whyAbsent(0, 0), 0);
    }

    private static void time() {
        Sentence.of(9, "Returns the present time.");
        Check.due("time() of a new object", new BrigadePagers().time(), 0);
        BrigadePagers x = Check.brigade(SLEEP);
        x.pass(1);
        Check.due("time() after the shortest step", x.time(), 1);
        x.pass(1440);
        Check.due("time() after the longest step", x.time(), 1441);
        Check.passTo(x, 20160);
        Check.due("the last time", x.time(), 20160);
    }

    private static void nightMinutes() {
        Sentence.of(10, "Counts the night minutes that begin at one time or later, and before another one.");
        int[][] due = {{0, 0, 0}, {0, 1, 1}, {359, 360, 1}, {360, 360, 0}, {360, 361, 0}, {358, 362, 2}, {1319, 1320, 0},
            {1320, 1321, 1}, {1319, 1321, 1}, {1320, 1800, 480}, {1319, 1801, 480}, {1321, 1799, 478}, {20159, 20160, 1},
            {20160, 20160, 0}, {0, 20160, 6720}, {1, 20159, 6718}};
        for (int[] row : due) {
            BrigadePagers x = new BrigadePagers();
            Check.due("nightMinutes(" + row[0] + ", " + row[1] + ")", x.nightMinutes(row[0], row[1]), row[2]);
            Check.due("the same at the last time", at(20160, SLEEP).nightMinutes(row[0], row[1]), row[2]);
        }
        Sentence.of(10, "Throws `IllegalArgumentException` if from is below 0, to is above 20160, or from is greater than to");
        int[][] wrong = {{-1, 0}, {-1, -1}, {-1, 20160}, {0, 20161}, {20160, 20161}, {20161, 20161}, {1, 0}, {20160, 20159},
            {20160, 0}, {-1, 20161}, {Integer.MIN_VALUE, 0}, {0, Integer.MAX_VALUE}, {0, Integer.MIN_VALUE},
            {Integer.MAX_VALUE, 20160}, {Integer.MIN_VALUE, Integer.MAX_VALUE}, {Integer.MAX_VALUE, Integer.MIN_VALUE}};
        for (int[] row : wrong) {
            Refusal.due("nightMinutes(" + row[0] + ", " + row[1] + ")", NO_ARGUMENT, () -> Scenes.busy(),
                    y -> y.nightMinutes(row[0], row[1]));
        }
    }

    private static void outUntil() {
        Sentence.of(11, "Returns the time at which a person is not out any more.");
        BrigadePagers x = at(600, SLEEP);
        x.call(0);
        Check.due("outUntil(0) at the call", x.outUntil(0), 604);
        x.pass(3);
        Check.due("outUntil(0) at 603", x.outUntil(0), 604);
        Sentence.of(11, "Returns the time; NONE if the person is not out.");
        Check.due("outUntil(1)", x.outUntil(1), BrigadePagers.NONE);
        x.pass(1);
        Check.due("outUntil(0) at 604", x.outUntil(0), BrigadePagers.NONE);
        BrigadePagers y = at(20160, SLEEP);
        Check.due("outUntil(0) at the last time", y.outUntil(0), BrigadePagers.NONE);
        y.call(0);
        Check.due("outUntil(0) beyond the last time", y.outUntil(0), 20164);
    }

    private static void lostSleepAfter() {
        Sentence.of(13, "`minutes`: 0 to 1440");
        BrigadePagers x = Check.brigade(SLEEP);
        x.call(0);
        int[][] due = {{0, 0}, {1, 1}, {3, 3}, {4, 4}, {5, 3}, {7, 1}, {8, 0}, {9, 0}, {1440, 0}};
        for (int[] row : due) {
            Check.due("lostSleepAfter(0, " + row[0] + ")", x.lostSleepAfter(0, row[0]), row[1]);
        }
        BrigadePagers y = at(359, SLEEP.replace("l 10", "l 999"));
        y.call(1);
        Check.due("lostSleepAfter(1, 961)", y.lostSleepAfter(1, 961), 1);
        Check.due("lostSleepAfter(1, 999)", y.lostSleepAfter(1, 999), 39);
        Check.due("lostSleepAfter(1, 1440)", y.lostSleepAfter(1, 1440), 0);
        Sentence.of(13, "Returns the minutes of lost sleep (also beyond the time 20160).");
        BrigadePagers z = at(20159, SLEEP);
        z.call(0);
        int[] later = {0, 1, 2, 3, 4, 3, 2, 1, 0, 0};
        for (int minutes = 0; minutes < later.length; minutes++) {
            Check.due("lostSleepAfter(0, " + minutes + ")", z.lostSleepAfter(0, minutes), later[minutes]);
        }
        z.pass(1);
        Check.due("lostSleepAfter(0, 3) at 20160", z.lostSleepAfter(0, 3), 4);
        Check.due("lostSleepAfter(0, 1440) at 20160", z.lostSleepAfter(0, 1440), 0);
        Sentence.of(13, "Throws `IllegalArgumentException` if minutes is out of range");
        for (int minutes : new int[] {-1, 1441, Integer.MIN_VALUE, Integer.MAX_VALUE}) {
            Refusal.due("lostSleepAfter(0, " + minutes + ")", NO_ARGUMENT, () -> Scenes.busy(),
                    b -> b.lostSleepAfter(0, minutes));
        }
    }

    /** a has lost 4 minutes at the time and 4, and so is tired up to the time and 5, and rested at the time and 6. */
    private static BrigadePagers calledAt(int time, int passed) {
        BrigadePagers x = at(time, SLEEP);
        x.call(0);
        x.pass(passed);
        return x;
    }

    private static void restedAt() {
        Sentence.of(14, "Returns the first time, from the present one up to 20160, at which a person will not be tired "
                + "if nothing else happens.");
        Check.due("restedAt(0) of one who is not tired yet", calledAt(100, 2).restedAt(0), 102);
        Check.due("restedAt(0) of one who is out", calledAt(100, 3).restedAt(0), 106);
        Check.due("restedAt(0) at the return", calledAt(100, 4).restedAt(0), 106);
        Check.due("restedAt(0) at the last tired time", calledAt(100, 5).restedAt(0), 106);
        Check.due("restedAt(0) at the first time", calledAt(100, 6).restedAt(0), 106);
        Check.due("restedAt(0) later", calledAt(100, 7).restedAt(0), 107);
        Check.due("restedAt(0) over the day", calledAt(356, 4).restedAt(0), 1322);
        Check.due("restedAt(0) of a new brigade", Check.brigade(SLEEP).restedAt(0), 0);
        Check.due("restedAt(0) just in time", calledAt(20154, 3).restedAt(0), 20160);
        Check.due("restedAt(0) at the last time", calledAt(20154, 6).restedAt(0), 20160);
        Check.due("restedAt(1) of another one at the last time", calledAt(20155, 5).restedAt(1), 20160);
        Sentence.of(14, "Throws `NoSuchElementException` if there is no such time");
        Check.due("restedAt(0) before the person is tired", calledAt(20155, 2).restedAt(0), 20157);
        for (int passed = 3; passed <= 5; passed++) {
            int minutes = passed;
            Refusal.due("restedAt(0) a minute too late", NONE_SUCH, () -> calledAt(20155, minutes), x -> x.restedAt(0));
        }
        Refusal.due("restedAt(0) at the last time", NONE_SUCH, () -> calledAt(20157, 3), x -> x.restedAt(0));
    }

    private static void arrivalAndPay() {
        Sentence.of(TERMS, "The arrival time of a person is the travel time, "
                + "and the wake time more if the minute that begins at the present time is a night minute.");
        BrigadePagers x = Check.brigade("night 22 6 30 240;person a 0;person b 120;");
        int[][] due = {{0, 30, 150}, {359, 30, 150}, {360, 0, 120}, {1319, 0, 120}, {1320, 30, 150}, {1439, 30, 150},
            {1440, 30, 150}, {20159, 30, 150}, {20160, 30, 150}};
        for (int[] row : due) {
            Check.passTo(x, row[0]);
            Check.due("arrival(0) at " + row[0], x.arrival(0), row[1]);
            Check.due("arrival(1) at " + row[0], x.arrival(1), row[2]);
        }
        BrigadePagers early = Check.brigade("night 1 3 30 240;person a 4;");
        int[][] dueEarly = {{0, 4}, {59, 4}, {60, 34}, {179, 34}, {180, 4}, {1439, 4}, {1440, 4}, {1499, 4}, {1500, 34},
            {1619, 34}, {1620, 4}, {20160, 4}};
        for (int[] row : dueEarly) {
            Check.passTo(early, row[0]);
            Check.due("arrival(0) at " + row[0] + " with an early night", early.arrival(0), row[1]);
        }
        Check.due("arrival(1) by night without a wake time", Check.brigade("night 0 1 0 9;person a 1;person b 7;").arrival(1), 7);
        Sentence.of(16, "Returns what a person was paid for all calls together.");
        BrigadePagers y = at(600, SLEEP);
        Check.due("pay(0) before any call", y.pay(0), 0);
        y.call(0);
        Check.due("pay(0) after one call", y.pay(0), 4);
        y.pass(4);
        y.call(0);
        Check.due("pay(0) after two calls", y.pay(0), 8);
        Check.due("pay(1) without a call", y.pay(1), 0);
        for (int call = 2; call < 16; call++) {
            y.pass(4);
            y.call(0);
        }
        Check.due("pay(0) after sixteen calls", y.pay(0), 64);
    }

    private static void trust() {
        Sentence.of(17, "Returns the trust, 0 to 9.");
        BrigadePagers x = Check.brigade(Scenes.TEXT);
        Check.due("trust(3, 0) of which the text says nothing", x.trust(3, 0), 0);
        Check.due("trust(0, 2)", x.trust(0, 2), 9);
        Check.due("trust(2, 0), the other way", x.trust(2, 0), 0);
        Sentence.of(17, "Throws `IllegalArgumentException` if they are the same");
        for (int person : new int[] {0, 1, 3}) {
            Refusal.due("trust of the same", NO_ARGUMENT, () -> Scenes.busy(), y -> y.trust(person, person));
        }
        Check.refused("trust(11, 11)", NO_ARGUMENT, () -> Scenes.full().trust(11, 11));
    }

    private static void trustPath() {
        String five = Scenes.NIGHT + "person a 1;person b 1;person c 1;person d 1;person e 1;";
        Sentence.of(18, "Returns the trust along the best row of persons from a person to another one: ");
        BrigadePagers x = Check.brigade(five + "trust a b 3;trust a c 9;trust c b 4;trust a d 5;trust d e 5;trust e b 6;");
        Check.due("the best of three rows", x.trustPath(0, 1), 5);
        x.setTrust(0, 1, 6);
        Check.due("the shortest row is the best", x.trustPath(0, 1), 6);
        BrigadePagers ends = Check.brigade(five + "trust d c 9;trust c b 8;trust b a 7;trust a e 6;trust c a 1;");
        Check.due("by others to the first person", ends.trustPath(3, 0), 7);
        Check.due("by the first person to the last", ends.trustPath(3, 4), 6);
        Sentence.of(18, "the trust along a row, each of which but the first is trusted by the one before, is the least of these trusts; ");
        x.setTrust(0, 1, 0);
        for (int level = 0; level <= 9; level++) {
            x.setTrust(3, 4, level);
            Check.due("trustPath(0, 4)", x.trustPath(0, 4), Math.min(5, level));
        }
        Check.due("trustPath(1, 0), against the trusts", x.trustPath(1, 0), 0);
        Sentence.of(18, "the row has no person twice, and may be just the two.");
        BrigadePagers y = Check.brigade(five + "trust a b 2;trust b a 9;trust b c 9;trust c b 9;");
        Check.due("just the two", y.trustPath(0, 1), 2);
        Check.due("trustPath(0, 2)", y.trustPath(0, 2), 2);
        Check.due("trustPath(1, 0)", y.trustPath(1, 0), 9);
        Sentence.of(18, "Returns the greatest trust along such a row.");
        Check.due("without any trust", y.trustPath(3, 4), 0);
        BrigadePagers full = Scenes.full();
        int[] row = {11, 0, 10, 1, 9, 2, 8, 3, 7, 4, 6, 5};
        for (int at = 0; at < 11; at++) {
            full.setTrust(row[at], row[at + 1], 9);
        }
        Check.due("along all twelve", full.trustPath(11, 5), 9);
        full.setTrust(2, 8, 1);
        Check.due("along all twelve, with a weak one", full.trustPath(11, 5), 1);
        Sentence.of(18, "Throws `IllegalArgumentException` if they are the same");
        for (int person : new int[] {0, 1, 3}) {
            Refusal.due("trustPath of the same", NO_ARGUMENT, () -> Scenes.busy(), z -> z.trustPath(person, person));
        }
    }
}
