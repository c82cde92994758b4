import java.util.NoSuchElementException;

/** Promises 9 to 18: the time, nights, lost sleep, arrivals, pay and trust. */
public final class TimePromisesTest {
    private static final String CREW = "person a 4;person b 6;person c 0;"
            + "pager p 0 24 a;pager q 0 24 b;pager r 0 24 c;engine e 10 any;"
            + "kind k 30 240 1:p q:e;kind z 30 240 1:r:e;kind d 900 240 1:p:e;kind h 300 240 1:r:e;kind y 29 240 1:r:e;";
    private static final String TEXT = "night 22 6 5 240;" + CREW;
    private static final String TIRING = "night 22 6 5 50;" + CREW;
    private static final int[] NO_PERSONS = {-1, 3, 12, Integer.MIN_VALUE, Integer.MAX_VALUE};

    public static void main(String[] args) {
        time();
        nightMinutes();
        outUntil();
        lostSleep();
        lostSleepAfter();
        restedAt();
        arrival();
        pay();
        trust();
        trustPath();
        Check.end();
    }

    private static BrigadePagers at(int time, String text) {
        BrigadePagers x = Check.brigade(text);
        Check.passTo(x, time);
        return x;
    }

    private static void time() {
        Check.part("promise 9");
        BrigadePagers x = Check.brigade(TEXT);
        Check.due("time", x.time(), 0);
        x.pass(1);
        Check.due("time after 1", x.time(), 1);
        x.pass(1440);
        Check.due("time after 1440 more", x.time(), 1441);
        x.call(0);
        Check.due("time after a call", x.time(), 1441);
        Check.passTo(x, 20160);
        Check.due("the last time", x.time(), 20160);
        x.undo();
        Check.due("time after undo", x.time() < 20160, true);
        Check.put(x, TEXT);
        x.load();
        Check.due("time after load", x.time(), 0);
    }

    private static void nights(String text, int from, int to, int want) {
        Check.due("nightMinutes(" + from + ", " + to + ") of " + text, Check.brigade(text).nightMinutes(from, to), want);
    }

    private static void nightMinutes() {
        Check.part("promise 10");
        String late = "night 22 6 5 240;";
        nights(late, 0, 0, 0);
        nights(late, 20160, 20160, 0);
        nights(late, 0, 1, 1);
        nights(late, 0, 361, 360);
        nights(late, 359, 360, 1);
        nights(late, 360, 361, 0);
        nights(late, 1319, 1320, 0);
        nights(late, 1320, 1321, 1);
        nights(late, 300, 1400, 140);
        nights(late, 1400, 3000, 40 + 480 + 120);
        nights(late, 0, 20160, 14 * 480);
        nights(late, 20159, 20160, 1);
        String early = "night 1 3 5 240;";
        nights(early, 0, 1440, 120);
        nights(early, 59, 60, 0);
        nights(early, 60, 61, 1);
        nights(early, 179, 180, 1);
        nights(early, 180, 181, 0);
        nights(early, 100, 1520, 80 + 20);
        nights("night 0 23 5 240;", 0, 1440, 1380);
        nights("night 0 23 5 240;", 1379, 1441, 2);
        nights("night 23 0 5 240;", 0, 1440, 60);
        nights("night 23 0 5 240;", 1380, 1441, 60);
        nights("night 5 4 5 240;", 0, 1440, 1380);
        nights("night 5 4 5 240;", 239, 301, 2);
        BrigadePagers x = at(5000, TEXT);
        Check.due("nightMinutes of the past", x.nightMinutes(0, 1440), 480);
        int[][] wrong = {{-1, 5}, {0, 20161}, {5, 4}, {20160, 0}, {-1, -1}, {20161, 20161}, {Integer.MIN_VALUE, 5},
            {0, Integer.MAX_VALUE}, {Integer.MAX_VALUE, Integer.MIN_VALUE}, {-2, 20161}};
        for (int[] span : wrong) {
            Check.refusedUnchanged("nightMinutes(" + span[0] + ", " + span[1] + ")", IllegalArgumentException.class, x,
                    () -> x.nightMinutes(span[0], span[1]));
        }
    }

    private static void outUntil() {
        Check.part("promise 11");
        BrigadePagers x = at(600, TEXT);
        Check.due("outUntil(0) at first", x.outUntil(0), BrigadePagers.NONE);
        x.call(0);
        Check.due("outUntil(0)", x.outUntil(0), 654);
        Check.due("outUntil(1)", x.outUntil(1), 612);
        Check.due("outUntil(2)", x.outUntil(2), BrigadePagers.NONE);
        x.call(1);
        Check.due("outUntil(2) who came for nothing at once", x.outUntil(2), BrigadePagers.NONE);
        x.pass(11);
        Check.due("outUntil(1) at 611", x.outUntil(1), 612);
        x.pass(1);
        Check.due("outUntil(1) at 612", x.outUntil(1), BrigadePagers.NONE);
        x.pass(41);
        Check.due("outUntil(0) at 653", x.outUntil(0), 654);
        x.pass(1);
        Check.due("outUntil(0) at 654", x.outUntil(0), BrigadePagers.NONE);
        BrigadePagers y = Check.brigade(TEXT);
        y.call(0);
        Check.due("outUntil(0) by night", y.outUntil(0), 59);
        Check.due("outUntil(1) by night", y.outUntil(1), 17);
        y.call(1);
        Check.due("outUntil(2) by night", y.outUntil(2), 5);
        BrigadePagers z = at(20160, TEXT);
        z.call(0);
        Check.due("outUntil(0) beyond the last time", z.outUntil(0), 20160 + 59);
        for (int person : NO_PERSONS) {
            Check.refusedUnchanged("outUntil(" + person + ")", IndexOutOfBoundsException.class, x, () -> x.outUntil(person));
        }
    }

    private static void lostSleep() {
        Check.part("promise 12");
        BrigadePagers x = Check.brigade(TEXT);
        x.call(0);
        Check.due("lostSleep(0) at first", x.lostSleep(0), 0);
        x.pass(17);
        Check.due("lostSleep(0) at 17", x.lostSleep(0), 17);
        Check.due("lostSleep(1) at 17", x.lostSleep(1), 17);
        Check.due("lostSleep(2) at 17", x.lostSleep(2), 0);
        x.pass(1);
        Check.due("lostSleep(0) at 18", x.lostSleep(0), 18);
        Check.due("lostSleep(1) at 18", x.lostSleep(1), 16);
        x.pass(41);
        Check.due("lostSleep(0) at 59", x.lostSleep(0), 59);
        Check.due("lostSleep(1) at 59", x.lostSleep(1), 0);
        x.pass(1);
        Check.due("lostSleep(0) at 60", x.lostSleep(0), 58);
        Check.due("lostSleep(1) at 60", x.lostSleep(1), 0);
        x.pass(300);
        Check.due("lostSleep(0) at 360", x.lostSleep(0), 0);
        BrigadePagers y = at(350, TEXT);
        y.call(2);
        y.pass(1440);
        Check.due("lostSleep(0) after a day in one step", y.lostSleep(0), 0);
        y.undo();
        y.pass(10);
        Check.due("lostSleep(0) at 360", y.lostSleep(0), 10);
        y.pass(960);
        Check.due("lostSleep(0) at 1320 after a day without a night", y.lostSleep(0), 10);
        y.pass(4);
        Check.due("lostSleep(0) at 1324", y.lostSleep(0), 6);
        for (int person : NO_PERSONS) {
            Check.refusedUnchanged("lostSleep(" + person + ")", IndexOutOfBoundsException.class, y, () -> y.lostSleep(person));
        }
    }

    private static void lostSleepAfter() {
        Check.part("promise 13");
        BrigadePagers x = at(350, TEXT);
        x.call(2);
        Check.due("after 0", x.lostSleepAfter(0, 0), 0);
        Check.due("after 5", x.lostSleepAfter(0, 5), 5);
        Check.due("after 10", x.lostSleepAfter(0, 10), 10);
        Check.due("after 600", x.lostSleepAfter(0, 600), 10);
        Check.due("after 970", x.lostSleepAfter(0, 970), 10);
        Check.due("after 975", x.lostSleepAfter(0, 975), 5);
        Check.due("after 980", x.lostSleepAfter(0, 980), 0);
        Check.due("after 1440", x.lostSleepAfter(0, 1440), 0);
        Check.due("another person's", x.lostSleepAfter(1, 10), 0);
        BrigadePagers y = at(20100, TEXT);
        y.call(3);
        Check.due("after 60", y.lostSleepAfter(2, 60), 60);
        Check.due("after 325", y.lostSleepAfter(2, 325), 325);
        Check.due("after 420", y.lostSleepAfter(2, 420), 230);
        Check.due("after 1380", y.lostSleepAfter(2, 1380), 230);
        Check.due("after 1440", y.lostSleepAfter(2, 1440), 170);
        for (int person : NO_PERSONS) {
            Check.refusedUnchanged("no such person", IndexOutOfBoundsException.class, y, () -> y.lostSleepAfter(person, 5));
            Check.refusedUnchanged("neither", IndexOutOfBoundsException.class, y, () -> y.lostSleepAfter(person, -1));
        }
        for (int minutes : new int[] {-1, 1441, Integer.MIN_VALUE, Integer.MAX_VALUE}) {
            Check.refusedUnchanged("wrong minutes", IllegalArgumentException.class, y, () -> y.lostSleepAfter(0, minutes));
        }
    }

    private static void restedAt() {
        Check.part("promise 14");
        BrigadePagers x = Check.brigade(TIRING);
        x.call(0);
        Check.due("restedAt(0) at 0", x.restedAt(0), 0);
        x.pass(49);
        Check.due("restedAt(0) at 49", x.restedAt(0), 49);
        x.pass(1);
        Check.due("restedAt(0) at 50", x.restedAt(0), 69);
        x.pass(18);
        Check.due("restedAt(0) at 68", x.restedAt(0), 69);
        Check.due("lostSleep(0) at 68", x.lostSleep(0), 50);
        x.pass(1);
        Check.due("restedAt(0) at 69", x.restedAt(0), 69);

        // Out until 1304, with 75 minutes lost: the day between does not count, the next night does.
        BrigadePagers d = at(285, TIRING);
        d.call(2);
        d.pass(75);
        Check.due("restedAt(0) over a day", d.restedAt(0), 1320 + 26);

        BrigadePagers y = at(20101, TIRING);
        y.call(4);
        y.pass(50);
        Check.due("outUntil(2)", y.outUntil(2), 20155);
        Check.due("restedAt(2), just yet", y.restedAt(2), 20160);
        BrigadePagers z = at(20101, TIRING);
        z.call(1);
        z.pass(49);
        Check.due("restedAt(2) before the person is tired", z.restedAt(2), 20150);
        z.pass(1);
        Check.refusedUnchanged("restedAt(2), too late", NoSuchElementException.class, z, () -> z.restedAt(2));
        BrigadePagers u = at(20100, TIRING);
        u.call(3);
        u.pass(60);
        Check.refusedUnchanged("restedAt(2), out", NoSuchElementException.class, u, () -> u.restedAt(2));
        Check.due("restedAt(0) at the last time", u.restedAt(0), 20160);
        for (int person : NO_PERSONS) {
            Check.refusedUnchanged("restedAt(" + person + ")", IndexOutOfBoundsException.class, u, () -> u.restedAt(person));
        }
    }

    private static void arrival() {
        Check.part("promise 15");
        BrigadePagers x = Check.brigade(TEXT);
        int[][] due = {{0, 9, 11, 5}, {359, 9, 11, 5}, {360, 4, 6, 0}, {1319, 4, 6, 0}, {1320, 9, 11, 5}, {20160, 9, 11, 5}};
        for (int[] row : due) {
            Check.passTo(x, row[0]);
            for (int person = 0; person < 3; person++) {
                Check.due("arrival(" + person + ") at " + row[0], x.arrival(person), row[1 + person]);
            }
        }
        BrigadePagers y = Check.brigade("night 1 3 5 240;person a 4;");
        int[][] early = {{0, 4}, {59, 4}, {60, 9}, {120, 9}, {179, 9}, {180, 4}, {1380, 4}, {1499, 4}, {1500, 9}, {1620, 4}};
        for (int[] row : early) {
            Check.passTo(y, row[0]);
            Check.due("arrival(0) with an early night at " + row[0], y.arrival(0), row[1]);
        }
        x.call(0);
        Check.due("arrival(0) of one who is out", x.arrival(0), 9);
        Check.due("arrival(0) without a wake time", Check.brigade("night 22 6 0 5;person a 120;").arrival(0), 120);
        for (int person : NO_PERSONS) {
            Check.refusedUnchanged("arrival(" + person + ")", IndexOutOfBoundsException.class, x, () -> x.arrival(person));
        }
    }

    private static void pay() {
        Check.part("promise 16");
        BrigadePagers x = Check.brigade(TEXT);
        Check.due("pay(0) at first", x.pay(0), 0);
        x.call(0);
        Check.due("pay(0) by night", x.pay(0), 118);
        Check.due("pay(1) by night", x.pay(1), 34);
        Check.due("pay(2)", x.pay(2), 0);
        Check.passTo(x, 350);
        x.call(0);
        Check.due("pay(0) with 10 night minutes", x.pay(0), 118 + 69);
        Check.due("pay(1) with 10 night minutes", x.pay(1), 34 + 17 + 10);
        Check.passTo(x, 600);
        x.call(0);
        Check.due("pay(0) by day", x.pay(0), 118 + 69 + 54);
        Check.due("pay(1) by day", x.pay(1), 34 + 27 + 12);
        x.call(1);
        Check.due("pay(2) for no minute", x.pay(2), 0);
        BrigadePagers y = at(20100, TEXT);
        y.call(3);
        Check.due("pay(2) beyond the last time", y.pay(2), 650);
        for (int person : NO_PERSONS) {
            Check.refusedUnchanged("pay(" + person + ")", IndexOutOfBoundsException.class, y, () -> y.pay(person));
        }
    }

    private static final String TRUSTING = "night 22 6 5 240;person a 4;person b 6;person c 0;person d 1;person e 1;"
            + "trust a b 5;trust b c 4;trust a c 3;trust c d 9;trust d a 7;trust b a 0;";

    private static void trust() {
        Check.part("promise 17");
        BrigadePagers x = Check.brigade(TRUSTING);
        int[][] due = {{0, 1, 5}, {1, 0, 0}, {1, 2, 4}, {2, 1, 0}, {0, 2, 3}, {2, 3, 9}, {3, 0, 7}, {0, 3, 0}, {4, 0, 0}};
        for (int[] row : due) {
            Check.due("trust(" + row[0] + ", " + row[1] + ")", x.trust(row[0], row[1]), row[2]);
        }
        wrongPairs(x, (a, b) -> x.trust(a, b));
    }

    private static void wrongPairs(BrigadePagers x, Check.OfTwo asked) {
        for (int wrong : new int[] {-1, 5, 12, Integer.MIN_VALUE, Integer.MAX_VALUE}) {
            Check.refusedUnchanged("first wrong", IndexOutOfBoundsException.class, x, () -> asked.of(wrong, 0));
            Check.refusedUnchanged("second wrong", IndexOutOfBoundsException.class, x, () -> asked.of(0, wrong));
            Check.refusedUnchanged("the same and wrong", IndexOutOfBoundsException.class, x, () -> asked.of(wrong, wrong));
        }
        for (int person = 0; person < 5; person++) {
            int same = person;
            Check.refusedUnchanged("the same", IllegalArgumentException.class, x, () -> asked.of(same, same));
        }
    }

    private static void trustPath() {
        Check.part("promise 18");
        BrigadePagers x = Check.brigade(TRUSTING);
        int[][] due = {{0, 1, 5}, {0, 2, 4}, {0, 3, 4}, {1, 0, 4}, {1, 2, 4}, {1, 3, 4}, {2, 3, 9}, {2, 0, 7}, {2, 1, 5},
            {3, 0, 7}, {3, 1, 5}, {3, 2, 4}, {0, 4, 0}, {4, 0, 0}};
        for (int[] row : due) {
            Check.due("trustPath(" + row[0] + ", " + row[1] + ")", x.trustPath(row[0], row[1]), row[2]);
        }
        x.setTrust(0, 2, 6);
        Check.due("trustPath(0, 2), just the two", x.trustPath(0, 2), 6);
        x.setTrust(0, 1, 9);
        x.setTrust(1, 2, 9);
        Check.due("trustPath(0, 3), all of it 9", x.trustPath(0, 3), 9);
        wrongPairs(x, (a, b) -> x.trustPath(a, b));

        StringBuilder text = new StringBuilder("night 22 6 5 240;");
        for (char name = 'a'; name < 'm'; name++) {
            text.append("person ").append(name).append(" 5;");
        }
        BrigadePagers y = Check.brigade(text.toString());
        // A row of all twelve, against the order of their numbers, so that no short cut finds it.
        int[] row = {5, 11, 10, 9, 8, 7, 6, 4, 3, 2, 1, 0};
        for (int at = 0; at < 11; at++) {
            y.setTrust(row[at], row[at + 1], at == 7 ? 3 : 8);
        }
        Check.due("trustPath along all twelve", y.trustPath(5, 0), 3);
        Check.due("trustPath along seven", y.trustPath(5, 4), 8);
        Check.due("trustPath the other way", y.trustPath(0, 5), 0);
    }
}
