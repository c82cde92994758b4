/** The boundary cases of CALLS and the promises 27 to 35 and 46. */
final class CallEdges {
    private static final int TERMS = Sentence.TERMS;
    private static final String NIGHT = Scenes.NIGHT;
    private static final Class<IndexOutOfBoundsException> NO_INDEX = IndexOutOfBoundsException.class;
    private static final Class<IllegalStateException> NO_STATE = IllegalStateException.class;

    private CallEdges() {
    }

    static void run() {
        alerted();
        absentReasons();
        everyAbsentReasonAtOnce();
        comers();
        engineReasons();
        fullCrews();
        leastArrival();
        firstCrew();
        leaving();
        idle();
        answered();
        trustBounds();
        trustFalls();
        trustGrows();
        paid();
        cost();
        whatIsTold();
        sixteenCalls();
    }

    private static BrigadePagers at(int time, String text) {
        BrigadePagers x = Check.brigade(text);
        Check.passTo(x, time);
        return x;
    }

    private static BrigadePagers called(BrigadePagers x, int kind) {
        x.call(kind);
        return x;
    }

    /** Persons a, b and so on hold a pager each, p, q and so on; what is said of them stands in the texts. */
    private static String crew(String... persons) {
        StringBuilder text = new StringBuilder(NIGHT);
        for (int n = 0; n < persons.length; n++) {
            text.append("person ").append(Texts.letter(n)).append(' ').append(persons[n]).append(';');
        }
        for (int n = 0; n < persons.length; n++) {
            text.append("pager ").append((char) ('p' + n)).append(" 0 24 ").append(Texts.letter(n)).append(';');
        }
        return text.toString();
    }

    // ---- who comes

    private static void alerted() {
        Sentence.of(TERMS, "A call of a kind alerts the pagers of this kind.");
        String text = crew("1", "1", "1", "1", "1", "1") + "engine e 5 any;kind k 9 240 1:q:e;kind l 9 240 1:p q r s t u:e;";
        BrigadePagers one = called(Scenes.byDay(text), 0);
        Check.due("came(0) by one pager", one.came(0), 1);
        Check.due("member(0, 0, 0)", one.member(0, 0, 0), 1);
        Check.due("came(0) by all six", called(Scenes.byDay(text), 1).came(0), 6);
        BrigadePagers x = Scenes.byDay(text);
        x.setTrust(1, 5, 3);
        x.setTrust(0, 5, 3);
        x.handOn(0, 5, 700);
        x.handOn(1, 5, 700);
        x.excuse(5, true);
        x.call(0);
        Check.due("the trust of one whose pager was alerted", x.trust(1, 5), 2);
        Check.due("the trust of one whose pager was not", x.trust(0, 5), 3);
    }

    private static void absentReasons() {
        String text = crew("4", "4", "9") + "engine e 5 any;kind k 30 9 1:p q:e;kind l 1 240 1:r:e;";
        Sentence.of(TERMS, "1 the person holds no pager of this kind");
        BrigadePagers x = Scenes.byDay(text);
        Check.due("whyAbsent(0, 2), who holds another pager", x.whyAbsent(0, 2), 1);
        x.handOn(0, 2, 601);
        Check.due("whyAbsent(0, 0), who has handed it on", x.whyAbsent(0, 0), 1);
        Check.due("whyAbsent(0, 2), to whom it was handed on", x.whyAbsent(0, 2), 0);
        x.pass(1);
        Check.due("whyAbsent(0, 0), when it is over", x.whyAbsent(0, 0), 0);
        Check.due("whyAbsent(0, 2), when it is over", x.whyAbsent(0, 2), 1);

        Sentence.of(TERMS, "2 the person is excused");
        x.excuse(0, true);
        Check.due("whyAbsent(0, 0), who is excused", x.whyAbsent(0, 0), 2);
        Check.due("whyAbsent(0, 1), who is not", x.whyAbsent(0, 1), 0);
        x.excuse(0, false);
        Check.due("whyAbsent(0, 0), who is not any more", x.whyAbsent(0, 0), 0);

        Sentence.of(TERMS, "3 the person is out");
        x.call(0);
        Check.due("outUntil(1), who came for nothing", x.outUntil(1), 609);
        x.pass(7);
        Check.due("whyAbsent(0, 1) a minute before the return", x.whyAbsent(0, 1), 3);
        x.pass(1);
        Check.due("whyAbsent(0, 1) at the return", x.whyAbsent(0, 1), 0);
        Check.due("whyAbsent(0, 0), who is out with the engine", x.whyAbsent(0, 0), 3);

        Sentence.of(TERMS, "4 the person is tired");
        BrigadePagers y = Check.brigade(text.replace("22 6 5 240", "0 23 0 30"));
        y.call(1);
        y.pass(20);
        Check.due("lostSleep(2) at the return", y.lostSleep(2), 20);
        Check.due("whyAbsent(1, 2), of one who lost less than the limit", y.whyAbsent(1, 2), 0);
        y.call(1);
        y.pass(20);
        Check.due("whyAbsent(1, 2), of one who lost more", y.whyAbsent(1, 2), 4);
        y.pass(10);
        Check.due("lostSleep(2)", y.lostSleep(2), 30);
        Check.due("whyAbsent(1, 2), of one who lost the limit", y.whyAbsent(1, 2), 4);
        y.pass(1);
        Check.due("whyAbsent(1, 2), of one who lost less by one", y.whyAbsent(1, 2), 0);

        Sentence.of(TERMS, "5 the arrival time is greater than the patience of the kind");
        String late = crew("0", "1", "119", "120") + "engine e 5 any;kind k 9 0 1:p q r s:e;kind l 9 1 1:p q r s:e;"
                + "kind m 9 119 1:p q r s:e;kind n 9 120 1:p q r s:e;";
        int[][] due = {{0, 5, 5, 5}, {0, 0, 5, 5}, {0, 0, 0, 5}, {0, 0, 0, 0}};
        for (int kind = 0; kind < 4; kind++) {
            for (int person = 0; person < 4; person++) {
                Check.due("whyAbsent(" + kind + ", " + person + ")", Scenes.byDay(late).whyAbsent(kind, person),
                        due[kind][person]);
            }
        }
        Check.due("whyAbsent(0, 0) by night", Check.brigade(late).whyAbsent(0, 0), 5);
        Check.due("whyAbsent(3, 2) by night", Check.brigade(late).whyAbsent(3, 2), 5);
    }

    /** a has every reason to stay away; then the first one after the other is taken away. */
    private static void everyAbsentReasonAtOnce() {
        Sentence.of(TERMS, "A person does not come for the first of these reasons that applies:");
        BrigadePagers x = Check.brigade(crew("9", "0").replace("22 6 5 240", "0 23 0 5")
                + "engine e 0 any;kind k 90 240 1:p:e;kind l 9 8 1:p:e;kind m 9 8 1:q:e;");
        x.call(0);
        x.pass(50);
        x.excuse(0, true);
        Check.due("whyAbsent of another kind", x.whyAbsent(2, 0), 1);
        Check.due("whyAbsent, excused", x.whyAbsent(1, 0), 2);
        x.excuse(0, false);
        Check.due("whyAbsent, out", x.whyAbsent(1, 0), 3);
        x.pass(49);
        Check.due("whyAbsent, tired", x.whyAbsent(1, 0), 4);
        x.pass(94);
        Check.due("lostSleep(0)", x.lostSleep(0), 5);
        Check.due("whyAbsent, still tired", x.whyAbsent(1, 0), 4);
        x.pass(1);
        Check.due("whyAbsent, late", x.whyAbsent(1, 0), 5);
        Check.due("whyAbsent of the patient kind", x.whyAbsent(0, 0), 0);
    }

    private static void comers() {
        Sentence.of(TERMS, "All others come.");
        BrigadePagers x = Scenes.full();
        for (int person = 0; person < 12; person++) {
            Check.due("whyAbsent(0, " + person + ")", x.whyAbsent(0, person), person % 2);
        }
        x.call(0);
        Check.due("came(0)", x.came(0), 6);
        Check.due("came(0) by two", called(Scenes.full(), 5).came(0), 2);

        Sentence.of(TERMS, "A person who holds several pagers comes once.");
        BrigadePagers y = Scenes.byDay(NIGHT + "person a 4;" + Texts.many("pager ", 6, " 0 24 a;") + "engine e 5 any any;"
                + "engine f 5 any;engine g 5 any;kind k 9 240 1:a b c d e f:e f g;");
        Check.due("manned(0, 0)", y.manned(0, 0), 1);
        y.call(0);
        Check.due("came(0)", y.came(0), 1);
        Check.due("left(0)", y.left(0), 1);
        Check.due("engine(0, 0)", y.engine(0, 0), 1);
        Check.due("pay(0)", y.pay(0), 4 + 10 + 9);
    }

    // ---- which engines leave, and with whom

    private static void engineReasons() {
        String text = crew("1", "1") + "engine e 5 any;engine f 5 any any;kind k 9 240 1:p q:e f;kind l 9 240 1:p q:f e;";
        Sentence.of(TERMS, "The engines of the kind are looked at in the order in which the kind names them.");
        Check.due("whyStays of the second engine", Scenes.byDay(text).whyStays(0, 1), 3);
        Check.due("whyStays of the second engine, the other way", Scenes.byDay(text).whyStays(1, 1), 3);
        Check.due("engine(0, 0)", called(Scenes.byDay(text), 0).engine(0, 0), 0);
        Check.due("engine(0, 0), the other way", called(Scenes.byDay(text), 1).engine(0, 0), 1);

        Sentence.of(TERMS, "1 it is out of service");
        BrigadePagers x = Scenes.byDay(text);
        x.setService(0, false);
        Check.due("whyStays(0, 0) out of service", x.whyStays(0, 0), 1);
        Check.due("whyStays(0, 1), for which the crew is free", x.whyStays(0, 1), 0);
        x.setService(0, true);
        Check.due("whyStays(0, 0) in service again", x.whyStays(0, 0), 0);

        Sentence.of(TERMS, "2 it is out");
        BrigadePagers y = called(Scenes.byDay(text), 0);
        Check.due("returnsAt(0)", y.returnsAt(0), 620);
        y.pass(19);
        Check.due("whyStays(0, 0) a minute before the return", y.whyStays(0, 0), 2);
        Check.due("whyStays(0, 1), which did not leave", y.whyStays(0, 1), 3);
        y.pass(1);
        Check.due("whyStays(0, 0) at the return", y.whyStays(0, 0), 0);

        Sentence.of(TERMS, "3 it has no full crew");
        BrigadePagers z = Scenes.byDay(text);
        Check.due("whyStays(1, 0) with just enough", z.whyStays(1, 0), 0);
        z.excuse(1, true);
        Check.due("whyStays(1, 0) with one too few", z.whyStays(1, 0), 3);
        z.excuse(0, true);
        Check.due("whyStays(0, 0) with nobody", z.whyStays(0, 0), 3);

        Sentence.of(TERMS, "An engine does not leave for the first of these reasons that applies:");
        z.setService(0, false);
        Check.due("whyStays(0, 0), 1 before 3", z.whyStays(0, 0), 1);
        Check.due("whyStays(0, 0), 2 before 3", called(Scenes.byDay(text), 0).whyStays(0, 0), 2);
    }

    private static void crewIs(String text, int... crew) {
        BrigadePagers x = called(Scenes.byDay(text), 0);
        Check.due("left(0) of " + text, x.left(0), crew.length == 0 ? 0 : 1);
        for (int member = 0; member < crew.length; member++) {
            Check.due("member(0, 0, " + member + ") of " + text, x.member(0, 0, member), crew[member]);
        }
        for (int member : new int[] {-1, crew.length}) {
            Check.refused("member " + member, NO_INDEX, () -> x.member(0, 0, member));
        }
    }

    private static void fullCrews() {
        Sentence.of(TERMS, "A full crew is a set of persons who come, "
                + "and are not in the crew of an engine that was looked at before, and who can man all posts of the engine: ");
        String pair = crew("1 chief", "1", "1");
        BrigadePagers x = Scenes.byDay(pair + "engine e 5 any any;engine f 5 any;kind k 9 240 1:p q r:e f;");
        Check.due("whyStays(0, 1), for which one is left", x.whyStays(0, 1), 0);
        Check.due("mans(0, 1, 0)", x.mans(0, 1, 0), 2);
        x.excuse(2, true);
        Check.due("whyStays(0, 1), for which nobody is left", x.whyStays(0, 1), 3);
        Sentence.of(TERMS, "each post is manned by exactly one of them, each of them mans exactly one post, ");
        String able = crew("1 chief driver medic smoke", "1");
        crewIs(able + "engine e 5 chief;kind k 9 240 1:p q:e;", 0);
        crewIs(able + "engine e 5 chief driver;kind k 9 240 1:p q:e;");
        crewIs(able + "engine e 5 chief chief;kind k 9 240 1:p q:e;");
        crewIs(able + "engine e 5 chief any;kind k 9 240 1:p q:e;", 0, 1);
        crewIs(able + "engine e 5 any any any;kind k 9 240 1:p q:e;");
        Sentence.of(TERMS, "and who mans a post that is not \"any\" has the skill of this post.");
        for (String skill : new String[] {"chief", "driver", "medic", "smoke"}) {
            String others = "chief driver medic smoke".replace(skill, "");
            crewIs(crew("1" + " " + others, "9 " + skill) + "engine e 5 " + skill + ";kind k 9 240 1:p q:e;", 1);
            crewIs(crew("1" + " " + others, "9") + "engine e 5 " + skill + ";kind k 9 240 1:p q:e;");
            crewIs(crew("9" + " " + others, "1") + "engine e 5 any;kind k 9 240 1:p q:e;", 1);
        }
        Sentence.of(TERMS, "The members of a crew are in ascending order of their numbers.");
        crewIs(crew("1 smoke", "1", "1 medic", "1", "1 driver", "1 chief")
                + "engine e 5 chief driver any medic any smoke;kind k 9 240 1:u t s r q p:e;", 0, 1, 2, 3, 4, 5);
    }

    private static void leastArrival() {
        Sentence.of(TERMS, "Of all full crews the engine takes one for which the greatest arrival time in it is least; ");
        crewIs(crew("3", "2", "1") + "engine e 5 any;kind k 9 240 1:p q r:e;", 2);
        crewIs(crew("3", "2", "1") + "engine e 5 any any;kind k 9 240 1:p q r:e;", 1, 2);
        crewIs(crew("3", "2", "1") + "engine e 5 any any any;kind k 9 240 1:p q r:e;", 0, 1, 2);
        crewIs(crew("4 medic", "5 medic chief", "5 chief", "1") + "engine e 5 medic chief;kind k 9 240 1:p q r s:e;", 0, 1);
        // Once somebody late must come, all who arrive no later are equal: the lower one is taken, not the earlier one.
        crewIs(crew("8", "1", "9 chief") + "engine e 5 any chief;kind k 9 240 1:p q r:e;", 0, 2);
        crewIs(crew("10", "1", "9 chief") + "engine e 5 any chief;kind k 9 240 1:p q r:e;", 1, 2);
        crewIs(crew("9", "1", "9 chief") + "engine e 5 any chief;kind k 9 240 1:p q r:e;", 0, 2);
    }

    private static void firstCrew() {
        Sentence.of(TERMS, "of several such crews the first one, if they are compared by their lowest person number, "
                + "then by their second lowest, and so on.");
        crewIs(crew("7", "7", "7", "7") + "engine e 5 any;kind k 9 240 1:s r q p:e;", 0);
        crewIs(crew("7", "7", "7", "7") + "engine e 5 any any any;kind k 9 240 1:s r q p:e;", 0, 1, 2);
        crewIs(crew("7 chief", "7 medic", "7 medic", "7 chief") + "engine e 5 medic chief;kind k 9 240 1:s r q p:e;", 0, 1);
        crewIs(crew("7", "7 medic", "7 chief medic", "7 chief") + "engine e 5 chief medic;kind k 9 240 1:s r q p:e;", 1, 2);
        crewIs(crew("7", "7 chief medic", "7 driver", "7 medic", "7 chief")
                + "engine e 5 chief medic any;kind k 9 240 1:t s r q p:e;", 0, 1, 3);
        crewIs(crew("7 medic", "7 medic", "7 medic", "7 chief", "7 chief medic")
                + "engine e 5 chief medic;kind k 9 240 1:t s r q p:e;", 0, 3);
    }

    private static void leaving() {
        Sentence.of(TERMS, "An engine that leaves does so at the present time plus the greatest arrival time in its crew; ");
        String text = crew("0", "7", "120") + "engine e 0 any any any;engine f 120 any;kind k 1 240 1:p q r:e;"
                + "kind l 999 0 1:p:f;kind m 1 0 1:p:e f;";
        Check.due("leftAt(0, 0)", called(Scenes.byDay(text), 0).leftAt(0, 0), 720);
        Check.due("leftAt(0, 0) of one who is there", called(Scenes.byDay(text), 1).leftAt(0, 0), 600);
        Sentence.of(TERMS, "it returns when twice its drive time and the duration of the kind have passed since then.");
        Check.due("returnsAt(0), the shortest way", called(Scenes.byDay(text), 0).returnsAt(0), 721);
        Check.due("returnsAt(1), the longest way", called(Scenes.byDay(text), 1).returnsAt(1), 600 + 240 + 999);

        Sentence.of(TERMS, "From the call on until it returns, it is out, and so is its crew.");
        BrigadePagers x = called(Scenes.byDay(text), 0);
        for (int person = 0; person < 3; person++) {
            Check.due("outUntil(" + person + ") at the call", x.outUntil(person), 721);
        }
        Check.due("returnsAt(1), which did not leave", x.returnsAt(1), BrigadePagers.NONE);
        x.pass(120);
        Check.due("outUntil(0) a minute before the return", x.outUntil(0), 721);
        Check.due("returnsAt(0) a minute before the return", x.returnsAt(0), 721);
        Check.due("whyAbsent(2, 0)", x.whyAbsent(2, 0), 3);
        Sentence.of(TERMS, "(At the time at which something returns, it is not out any more.)");
        Check.due("pass(1)", x.pass(1), 1);
        for (int person = 0; person < 3; person++) {
            Check.due("outUntil(" + person + ") at the return", x.outUntil(person), BrigadePagers.NONE);
        }
        Check.due("returnsAt(0) at the return", x.returnsAt(0), BrigadePagers.NONE);
        Check.due("whyAbsent(2, 0) at the return", x.whyAbsent(2, 0), 0);
        Check.due("whyStays(0, 0) at the return", x.whyStays(0, 0), 0);
        Check.due("setService(0, false) at the return", x.setService(0, false), 1);
    }

    private static void idle() {
        Sentence.of(TERMS, "A person who came but is in no crew is out from the call on for the arrival time and the travel time "
                + "(not at all if both are 0).");
        String text = crew("0", "1", "9", "120") + "engine e 5 smoke;kind k 9 240 1:p q r s:e;";
        int[] byDay = {BrigadePagers.NONE, 602, 618, 840};
        int[] byNight = {5, 7, 23, 245};
        BrigadePagers day = called(Scenes.byDay(text), 0);
        BrigadePagers night = called(Check.brigade(text), 0);
        for (int person = 0; person < 4; person++) {
            Check.due("outUntil(" + person + ") by day", day.outUntil(person), byDay[person]);
            Check.due("outUntil(" + person + ") by night", night.outUntil(person), byNight[person]);
        }
        Check.due("whyAbsent(0, 0) at once again", day.whyAbsent(0, 0), 0);
        Check.due("came(0)", day.came(0), 4);
        day.pass(1);
        Check.due("outUntil(1) at 601", day.outUntil(1), 602);
        day.pass(1);
        Check.due("outUntil(1) at 602", day.outUntil(1), BrigadePagers.NONE);
        BrigadePagers noWake = called(Check.brigade(text.replace("22 6 5", "22 6 0")), 0);
        Check.due("outUntil(0) by night without a wake time", noWake.outUntil(0), BrigadePagers.NONE);
    }

    private static void answered() {
        String five = crew("1", "1", "1", "1", "1") + Texts.many("engine ", 5, " 5 any;");
        Sentence.of(TERMS, "A call is answered if at least as many engines leave as the need of the kind says.");
        for (int need = 1; need <= 5; need++) {
            BrigadePagers x = Scenes.byDay(five + "kind k 9 240 " + need + ":p q r s t:a b c d e;");
            for (int excused = 0; excused < 5; excused++) {
                Check.due("wouldAnswer, " + (5 - excused) + " of " + need, x.wouldAnswer(0), 5 - excused >= need);
                x.call(0);
                Check.due("isAnswered, " + (5 - excused) + " of " + need, x.isAnswered(excused), 5 - excused >= need);
                x.pass(20);
                x.excuse(excused, true);
            }
            Check.due("wouldAnswer, nobody", x.wouldAnswer(0), false);
        }
        Sentence.of(TERMS, "Otherwise, too, those engines leave that can.");
        BrigadePagers y = Scenes.byDay(five + "kind k 9 240 5:p q:a b c d e;");
        y.setService(0, false);
        y.call(0);
        Check.due("isAnswered(0)", y.isAnswered(0), false);
        Check.due("left(0)", y.left(0), 2);
        Check.due("engine(0, 0)", y.engine(0, 0), 1);
        Check.due("engine(0, 1)", y.engine(0, 1), 2);
        Check.due("returnsAt(1)", y.returnsAt(1), 620);
        Check.due("returnsAt(3)", y.returnsAt(3), BrigadePagers.NONE);
        Check.due("cost(0)", y.cost(0), 20 + 20 + 100);
    }

    // ---- trust

    private static void trustBounds() {
        Sentence.of(TERMS, "Trust falls and grows between 0 and 9: a change that would lead beyond these bounds does nothing.");
        String text = crew("1", "1", "1") + "engine e 5 any any;kind k 9 240 1:p q:e;";
        for (int level = 0; level <= 9; level++) {
            BrigadePagers x = Scenes.byDay(text);
            x.setTrust(0, 2, level);
            x.handOn(0, 2, 700);
            x.excuse(2, true);
            x.call(0);
            Check.due("trust(0, 2) that was " + level, x.trust(0, 2), Math.max(0, level - 1));
            BrigadePagers y = Scenes.byDay(text);
            y.setTrust(0, 1, level);
            y.call(0);
            y.pass(20);
            Check.due("trust(0, 1) that was " + level, y.trust(0, 1), Math.min(9, level + 1));
        }
        // Two pagers from the same person: the second fall leads beyond the bound.
        BrigadePagers z = Scenes.byDay(NIGHT + "person a 1;person b 1;trust a b 1;pager p 0 24 a;pager q 0 24 a;engine e 5 any;"
                + "kind k 9 240 1:p q:e;");
        z.handOn(0, 1, 700);
        z.handOn(1, 1, 700);
        z.excuse(1, true);
        z.call(0);
        Check.due("trust(0, 1) that falls twice from 1", z.trust(0, 1), 0);
        z.setTrust(0, 1, 9);
        z.call(0);
        Check.due("trust(0, 1) that falls twice from 9", z.trust(0, 1), 7);
    }

    private static void trustIs(String when, BrigadePagers x, int... levels) {
        int[][] pairs = {{0, 1}, {1, 2}, {0, 2}, {1, 0}, {2, 1}, {2, 0}};
        for (int at = 0; at < pairs.length; at++) {
            int[] pair = pairs[at];
            Check.due("trust(" + pair[0] + ", " + pair[1] + ") " + when, x.trust(pair[0], pair[1]), levels[at]);
        }
    }

    /** Pager p is handed on from a to b and to c, and everybody trusts everybody 5. */
    private static BrigadePagers handed(int handOns) {
        BrigadePagers x = Scenes.byDay(crew("9", "1", "9") + "engine e 5 any;kind k 9 240 1:p:e;kind l 9 1 1:p:e;"
                + "kind m 90 240 1:r:e;kind n 9 240 1:q:e;");
        for (int person = 0; person < 9; person++) {
            if (person / 3 != person % 3) {
                x.setTrust(person / 3, person % 3, 5);
            }
        }
        if (handOns > 0) {
            x.handOn(0, 1, 800);
        }
        if (handOns > 1) {
            x.handOn(0, 2, 700);
        }
        return x;
    }

    private static void trustFalls() {
        Sentence.of(TERMS, "At a call, for each of the alerted pagers in the order in which the kind names them: "
                + "if it has a hand-on and its holder does not come, for whatever reason, "
                + "then the trust of the person just before the holder in its chain, in the holder, falls by 1.");
        trustIs("when the holder comes", called(handed(2), 0), 5, 5, 5, 5, 5, 5);
        trustIs("when the holder is late", called(handed(2), 1), 5, 4, 5, 5, 5, 5);
        BrigadePagers excused = handed(2);
        excused.excuse(2, true);
        trustIs("when the holder is excused", called(excused, 0), 5, 4, 5, 5, 5, 5);
        trustIs("when the holder is out", called(called(handed(2), 2), 0), 5, 4, 5, 5, 5, 5);
        BrigadePagers first = handed(1);
        first.excuse(1, true);
        trustIs("when the one holder is excused", called(first, 0), 4, 5, 5, 5, 5, 5);
        BrigadePagers owner = handed(0);
        owner.excuse(0, true);
        trustIs("without a hand-on", called(owner, 0), 5, 5, 5, 5, 5, 5);
        BrigadePagers other = handed(2);
        other.excuse(2, true);
        trustIs("when another pager is alerted", called(other, 3), 5, 5, 5, 5, 5, 5);
        BrigadePagers over = handed(2);
        over.excuse(2, true);
        over.pass(100);
        trustIs("when the hand-on is over", called(over, 0), 5, 5, 5, 5, 5, 5);
        BrigadePagers still = handed(2);
        still.excuse(2, true);
        still.pass(99);
        trustIs("a minute before it is over", called(still, 0), 5, 4, 5, 5, 5, 5);
        // The one alerted pager is not the first one, and has more hand-ons than it, or fewer.
        for (int handOns = 0; handOns <= 2; handOns++) {
            BrigadePagers second = handed(handOns);
            second.handOn(1, 0, 700);
            second.excuse(0, true);
            trustIs("of the second pager", called(second, 3), 5, 5, 5, 4, 5, 5);
        }
        trustFallsWhenTired();
    }

    private static void trustFallsWhenTired() {
        BrigadePagers x = Check.brigade("night 0 23 0 20;person a 0;person b 0;trust a b 5;pager p 0 20 a;pager q 0 20 b;"
                + "engine e 0 any;engine f 0 any;kind k 20 240 1:q:e;kind l 1 240 1:p:f;");
        x.call(0);
        x.pass(20);
        Check.due("lostSleep(1)", x.lostSleep(1), 20);
        Check.refused("handOn to one who is tired", NO_STATE, () -> x.handOn(0, 1, 1200));
        x.pass(1);
        x.handOn(0, 1, 1200);
        x.call(1);
        Check.due("trust(0, 1) when the holder is not tired", x.trust(0, 1), 5);
        x.pass(1);
        Check.due("lostSleep(1) after a minute out", x.lostSleep(1), 20);
        x.call(1);
        Check.due("trust(0, 1) when the holder is tired", x.trust(0, 1), 4);
    }

    private static void trustGrows() {
        Sentence.of(TERMS, "When an engine returns, the trust of each member of its crew in each other member grows by 1.");
        BrigadePagers x = Scenes.byDay(crew("1", "1", "1", "1", "1") + "engine e 5 any any;engine f 6 any any;"
                + "kind k 9 240 1:p q r s t:e f;");
        x.call(0);
        x.pass(19);
        int[][] zero = new int[5][5];
        everyTrust("before the return", x, zero);
        x.pass(1);
        zero[0][1] = 1;
        zero[1][0] = 1;
        everyTrust("at the return of e", x, zero);
        x.pass(1);
        everyTrust("before the return of f", x, zero);
        x.pass(1);
        zero[2][3] = 1;
        zero[3][2] = 1;
        everyTrust("at the return of f", x, zero);
        x.pass(1000);
        everyTrust("long after", x, zero);
        BrigadePagers full = Scenes.byDay(Scenes.fullText().replace("engine a 0 any;", "engine a 0 any medic;")
                .replace("pager f 0 48 k l", "pager f 0 48 l k"));
        full.call(5);
        full.pass(1440);
        Check.due("trust(8, 11) of the last persons", full.trust(8, 11), 1);
        Check.due("trust(11, 8) of the last persons", full.trust(11, 8), 1);
        Check.due("trust(11, 10)", full.trust(11, 10), 0);
        BrigadePagers one = called(Scenes.byDay(crew("1") + "engine e 5 any;kind k 9 240 1:p:e;"), 0);
        Check.due("pass(20) with a crew of one", one.pass(20), 1);
    }

    private static void everyTrust(String when, BrigadePagers x, int[][] due) {
        for (int person = 0; person < 5; person++) {
            for (int other = 0; other < 5; other++) {
                if (person != other) {
                    Check.due("trust(" + person + ", " + other + ") " + when, x.trust(person, other), due[person][other]);
                }
            }
        }
    }

    // ---- pay and cost

    private static void paid() {
        String text = crew("0", "7") + "engine e 0 any;kind k 10 6 1:p q:e;kind l 9 240 1:q p:e;";
        Sentence.of(TERMS, "Each person who comes is paid at the call: 1 for each minute for which the person will be out by this call, "
                + "and 1 more for each night minute of them (also beyond the time 20160).");
        BrigadePagers x = called(Scenes.byDay(text), 0);
        Check.due("pay(0) at the call", x.pay(0), 10);
        Check.due("pay(1), who does not come", x.pay(1), 0);
        x.pass(100);
        Check.due("pay(0) later", x.pay(0), 10);
        // Day until 1320, night from then on; the last minute that counts begins just before the return.
        int[][] due = {{1310, 10}, {1311, 11}, {1319, 19}, {1320, 30}};
        for (int[] row : due) {
            Check.due("pay(0) of a call at " + row[0], called(at(row[0], text), 0).pay(0), row[1]);
        }
        int[][] morning = {{340, 30}, {345, 30}, {346, 29}, {350, 25}, {359, 16}, {360, 10}};
        for (int[] row : morning) {
            Check.due("pay(0) of a call at " + row[0], called(at(row[0], text), 0).pay(0), row[1]);
        }
        Check.due("pay(0) beyond the last time", called(at(20155, text), 0).pay(0), 30);
        Check.due("pay(0) at the last time", called(at(20160, text), 0).pay(0), 30);
        BrigadePagers longest = called(at(20160, text.replace("k 10", "k 999")), 0);
        Check.due("pay(0) to the morning beyond the last time", longest.pay(0), 1004 + 360);
        BrigadePagers nothing = called(Scenes.byDay(text.replace("engine e 0 any", "engine e 0 smoke")), 0);
        Check.due("pay(0) of one who goes home at once", nothing.pay(0), 0);
        Check.due("pay(1) of one who goes home", called(Scenes.byDay(text.replace("0 any", "0 smoke")), 1).pay(1), 14);
        Check.due("pay(1) of one who goes home by night", called(Check.brigade(text.replace("0 any", "0 smoke")), 1).pay(1), 38);
    }

    private static void cost() {
        Sentence.of(TERMS, "The cost of a call is what it pays, and 50 for each engine that leaves.");
        BrigadePagers x = Scenes.full();
        x.call(0);
        Check.due("cost(0) of five engines", x.cost(0), 2 + 4 + 6 + 8 + 10 + 22 + 250);
        x.call(0);
        Check.due("cost(1) of nothing", x.cost(1), 0);
        BrigadePagers y = called(Scenes.byDay(crew("7") + "engine e 0 smoke;kind k 10 240 1:p:e;"), 0);
        Check.due("cost(0) without an engine", y.cost(0), 14);
        BrigadePagers z = called(Scenes.byDay(crew("0") + "engine e 0 smoke;kind k 10 240 1:p:e;"), 0);
        Check.due("cost(0) of one who is not out at all", z.cost(0), 0);
        BrigadePagers one = called(Scenes.byDay(crew("0") + "engine e 0 any;kind k 1 240 1:p:e;"), 0);
        Check.due("cost(0) of the shortest", one.cost(0), 51);
    }

    // ---- promises 27 to 35 and 46

    private static void whatIsTold() {
        Sentence.of(27, "Returns the time; NONE if it is not out.");
        BrigadePagers x = Scenes.busy();
        Check.due("returnsAt(0)", x.returnsAt(0), BrigadePagers.NONE);
        Check.due("returnsAt(1)", x.returnsAt(1), 673);
        Sentence.of(27, "Returns the time at which an engine is not out any more.");
        Check.passTo(x, 672);
        Check.due("returnsAt(1) at 672", x.returnsAt(1), 673);
        x.pass(1);
        Check.due("returnsAt(1) at 673", x.returnsAt(1), BrigadePagers.NONE);
        BrigadePagers full = Scenes.fullOfCalls();
        Sentence.of(32, "`index`: 0 for the first one that left, in the order of the kind");
        for (int index = 0; index < 5; index++) {
            Check.due("engine(14, " + index + ")", full.engine(14, index), index);
            Check.due("engine(15, " + index + ")", full.engine(15, index), 4 - index);
        }
        indexAsForEngine(full);
        int[] wrong = {-1, 5, 6, Integer.MIN_VALUE, Integer.MAX_VALUE};
        Sentence.of(32, "Throws `IndexOutOfBoundsException` if there is no such call, or no such engine left");
        noSuchEngine(full, wrong, (y, index) -> y.engine(15, index), (y, index) -> y.engine(0, index));
        Sentence.of(33, "Throws `IndexOutOfBoundsException` if there is no such call, or no such engine left");
        noSuchEngine(full, wrong, (y, index) -> y.leftAt(15, index), (y, index) -> y.leftAt(0, index));
        Sentence.of(34, "Throws `IndexOutOfBoundsException` if there is no such call, no such engine left, or there is no such member");
        noSuchEngine(full, wrong, (y, index) -> y.member(15, index, 0), (y, index) -> y.member(0, index, 0));
        for (int member : new int[] {-1, 1, 6, 31, 32, Integer.MIN_VALUE, Integer.MAX_VALUE}) {
            Check.refused("member(15, 4, " + member + ")", NO_INDEX, () -> full.member(15, 4, member));
            Refusal.due("member(0, 0, " + member + ")", NO_INDEX, () -> Scenes.busy(), y -> y.member(0, 0, member));
        }
        BrigadePagers six = called(Scenes.byDay(crew("1", "1", "1", "1", "1", "1")
                + "engine e 5 any any any any any any;kind k 9 240 1:p q r s t u:e;"), 0);
        Check.due("the sixth member", six.member(0, 0, 5), 5);
        Check.refused("a seventh member", NO_INDEX, () -> six.member(0, 0, 6));
        Sentence.of(35, "Returns what all calls cost together.");
        Check.due("totalCost() of none", new BrigadePagers().totalCost(), 0);
        Check.due("totalCost() of one", Scenes.busy().totalCost(), Scenes.busy().cost(0));
        Check.due("totalCost() of sixteen", full.totalCost(), 16 * 302);
    }

    /** Person 2n mans engine n and arrives after 2n + 1 minutes. */
    private static void indexAsForEngine(BrigadePagers full) {
        for (int call : new int[] {0, 14, 15}) {
            Sentence.of(33, "`index`: as for engine()");
            for (int index = 0; index < 5; index++) {
                int person = full.member(call, index, 0);
                Check.due("leftAt(" + call + ", " + index + ")", full.leftAt(call, index), 600 + 30 * call + person + 1);
            }
            Sentence.of(34, "`index`: as for engine()");
            int[] members = call == 15 ? new int[] {8, 0, 2, 4, 6} : new int[] {0, 2, 4, 6, 8};
            for (int index = 0; index < 5; index++) {
                Check.due("member(" + call + ", " + index + ", 0)", full.member(call, index, 0), members[index]);
            }
        }
    }

    interface Asked {
        void of(BrigadePagers x, int index);
    }

    /** One engine left at the busy brigade's call, five at each of the full one's. */
    private static void noSuchEngine(BrigadePagers full, int[] wrong, Asked ofFull, Asked ofBusy) {
        ofFull.of(full, 4);
        ofBusy.of(Scenes.busy(), 0);
        for (int index : wrong) {
            Check.refused("engine " + index + " of five", NO_INDEX, () -> ofFull.of(full, index));
            Refusal.due("engine " + index + " of one", NO_INDEX, () -> Scenes.busy(), x -> ofBusy.of(x, index));
        }
        Refusal.due("engine 1 of one", NO_INDEX, () -> Scenes.busy(), x -> ofBusy.of(x, 1));
        Refusal.due("engine 0 of none", NO_INDEX, () -> {
            BrigadePagers x = Scenes.byDay(Scenes.TEXT);
            x.excuse(0, true);
            x.excuse(1, true);
            x.call(0);
            return x;
        }, x -> ofBusy.of(x, 0));
    }

    private static void sixteenCalls() {
        Sentence.of(46, "Throws `IllegalStateException` if there are 16 calls already");
        BrigadePagers x = Scenes.full();
        for (int call = 0; call < 16; call++) {
            Check.due("call(5)", x.call(5), call);
        }
        for (int kind = 0; kind < 6; kind++) {
            int asked = kind;
            Check.refused("a seventeenth call", NO_STATE, () -> x.call(asked));
        }
        Check.due("count(4)", x.count(4), 16);
        Refusal.due("a seventeenth call", NO_STATE, () -> sixteen(), y -> y.call(0));
        Refusal.due("a seventeenth call of no kind", NO_INDEX, () -> sixteen(), y -> y.call(2));
        x.undo();
        Check.due("the sixteenth call again", x.call(0), 15);
        Check.refused("a seventeenth call again", NO_STATE, () -> x.call(0));
    }

    private static BrigadePagers sixteen() {
        BrigadePagers x = Scenes.busy();
        for (int call = 1; call < 16; call++) {
            x.call(call % 2);
        }
        return x;
    }
}
