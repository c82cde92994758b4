import java.util.NoSuchElementException;

/** The boundary cases of GENERAL, THE TEXT, Errors and the promises 1 to 8. */
final class TextEdges {
    private static final int TERMS = Sentence.TERMS;
    private static final String NIGHT = Scenes.NIGHT;
    private static final String AB = NIGHT + "person a 5;person b 5;";
    private static final String ABT = AB + "trust a b 3;";
    private static final String ABP = AB + "pager p 0 1 a;";
    private static final String ABPE = ABP + "engine e 5 any;";
    private static final String ABPEK = ABPE + "kind k 1 0 1:p:e;";
    private static final String TWELVE = NIGHT + Texts.many("person ", 12, " 5;");
    private static final Class<IndexOutOfBoundsException> NO_INDEX = IndexOutOfBoundsException.class;
    private static final Class<IllegalArgumentException> NO_ARGUMENT = IllegalArgumentException.class;
    private static final Class<IllegalStateException> NO_STATE = IllegalStateException.class;
    private static final Class<NoSuchElementException> NONE_SUCH = NoSuchElementException.class;

    private TextEdges() {
    }

    static void run() {
        general();
        tokens();
        grammar();
        numbersOfTheText();
        namesOfTheText();
        roomOfTheText();
        positions();
        firstErrors();
        codeOne();
        codes();
        newObject();
        append();
        truncate();
        load();
        loadRefused();
        errorCodeAndPosition();
        find();
        count();
    }

    // ---- GENERAL

    private static void general() {
        Sentence.of(TERMS, "Persons, pagers, engines, kinds of calls, and calls are numbered from 0, ");
        BrigadePagers x = Scenes.byDay(Scenes.TEXT);
        String[][] names = {{"a", "b", "c", "d"}, {"p", "q"}, {"g", "h"}, {"k", "l"}};
        for (int sort = 0; sort < 4; sort++) {
            for (int number = 0; number < names[sort].length; number++) {
                Check.due("find " + names[sort][number], Check.find(x, sort, names[sort][number]), number);
            }
        }
        Check.due("the first post's person", x.mans(0, 0, 0), 0);
        Check.due("the second post's person", x.mans(0, 0, 1), 1);
        Check.due("the first call", x.call(0), 0);
        Check.due("the second call", x.call(0), 1);
        Sentence.of(TERMS, "the places of a rotation, the posts of an engine and the members of a crew, too.");
        int[] rotation = {0, 1, 2, 0};
        for (int place = 0; place < 4; place++) {
            Check.due("rotation(0, " + place + ")", x.rotation(0, place), rotation[place]);
        }
        Check.due("the first member", x.member(0, 0, 0), 0);
        Check.due("the second member", x.member(0, 0, 1), 1);
        for (int none : new int[] {-1, 2}) {
            BrigadePagers y = Scenes.byDay(Scenes.TEXT);
            Check.refused("post " + none, NO_INDEX, () -> y.mans(0, 0, none));
            Check.refused("member " + none, NO_INDEX, () -> x.member(0, 0, none));
        }
        times();
        beyondTheLastTime();
    }

    private static void times() {
        Sentence.of(TERMS, "Times are in minutes from 0 to 20160; ");
        BrigadePagers x = Check.brigade(Scenes.TEXT);
        Check.due("the nights of all times", x.nightMinutes(0, 20160), 14 * 480);
        Check.refused("a time below 0", NO_ARGUMENT, () -> x.nightMinutes(-1, 20160));
        Check.refused("a time above 20160", NO_ARGUMENT, () -> x.nightMinutes(0, 20161));
        Check.due("the holder at 0", x.holderAt(0, 0), 0);
        Check.due("the holder at 20160", x.holderAt(0, 20160), 0);
        Check.refused("the holder at 20161", NO_ARGUMENT, () -> x.holderAt(0, 20161));
        Check.passTo(x, 20160);
        Check.refused("a minute more", NO_STATE, () -> x.pass(1));
        Check.due("the last time", x.time(), 20160);

        Sentence.of(TERMS, "the present time is 0 at first.");
        Check.due("time() of a new object", new BrigadePagers().time(), 0);
        Check.put(x, Scenes.TEXT);
        x.load();
        Check.due("time() after load()", x.time(), 0);

        Sentence.of(TERMS, "The hour of a time is the time divided by 60, rounded down, modulo 24.");
        nights(0, 1, 0, 1, 59, 1, 60, 0, 1439, 0, 1440, 1, 1499, 1, 1500, 0, 18719, 0, 18720, 1, 18779, 1, 18780, 0);
        nights(1, 2, 0, 0, 59, 0, 60, 1, 119, 1, 120, 0, 1499, 0, 1500, 1, 20159, 0);
        nights(23, 0, 0, 0, 1379, 0, 1380, 1, 1439, 1, 1440, 0, 20099, 0, 20100, 1, 20159, 1);
    }

    /** Each minute is followed by 1 if it is a night minute, and by 0 if not. */
    private static void nights(int begin, int end, int... minutes) {
        BrigadePagers x = Check.brigade("night " + begin + " " + end + " 5 240;");
        for (int at = 0; at < minutes.length; at += 2) {
            int minute = minutes[at];
            Check.due("night " + begin + " to " + end + " at " + minute, x.nightMinutes(minute, minute + 1), minutes[at + 1]);
        }
    }

    private static void beyondTheLastTime() {
        BrigadePagers x = Check.brigade(Scenes.TEXT);
        Check.passTo(x, 20160);
        Sentence.of(TERMS, "Times beyond 20160 can occur as the end of something; ");
        Check.due("whyNotHandOn() to the end of the turn", x.whyNotHandOn(0, 3, 20400), 0);
        Check.due("whyNotHandOn() to a minute later", x.whyNotHandOn(0, 3, 20401), 8);
        x.call(0);
        Check.due("holdingEnd(0)", x.holdingEnd(0), 20400);
        Check.due("leftAt(0, 0)", x.leftAt(0, 0), 20171);
        Check.due("returnsAt(0)", x.returnsAt(0), 20221);
        Check.due("outUntil(0)", x.outUntil(0), 20221);
        Sentence.of(TERMS, "turns go on there.");
        Check.due("dutyMinutes(0, 240)", x.dutyMinutes(0, 240), 240);
        Check.due("dutyMinutes(0, 1440)", x.dutyMinutes(0, 1440), 240);
        x.undo();
        x.handOn(1, 3, 20161);
        Check.due("dutyMinutes(1, 240)", x.dutyMinutes(1, 240), 239);
        Check.due("dutyMinutes(3, 1440)", x.dutyMinutes(3, 1440), 1);
    }

    // ---- tokens

    private static void tokens() {
        Sentence.of(TERMS, "The text is collected in a text buffer of at most 1200 bytes.");
        BrigadePagers x = new BrigadePagers();
        Check.put(x, NIGHT + "person a 5;");
        for (int length = x.append(0x20202020, 0x20202020, 0x20202020, 0x20202020, 0x20202020); length <= 1180;) {
            length = x.append(0x20202020, 0x20202020, 0x20202020, 0x20202020, 0x20202020);
        }
        Check.refused("20 bytes more", NO_STATE, () -> x.append(0, 0, 0, 0, 0));
        Check.due("load()", x.load(), 1);
        Texts.right(filled(NIGHT + "person a 5;", 1200), 1);
        Texts.right(filled(NIGHT, 1199) + "\n", 0);

        Sentence.of(TERMS, "Tokens are as long as possible: ");
        Texts.right("night22 6 5 240;", 0);
        Texts.right(NIGHT + "person a5chief;", 1);
        Texts.right(NIGHT + "person personab 5;", 1);
        Texts.error(1, "^nightnight 22 6 5 240;");
        Texts.error(1, NIGHT + "person a 5 ^chiefdriver;");
        Texts.error(2, "night ^2206 5 240;");
        Texts.error(1, NIGHT + "person ab^;");

        Sentence.of(TERMS, "words (maximal runs of letters a to z), ");
        Texts.right(NIGHT + "person az 5;person za 5;person a 5;person z 5;", 4);
        for (char none : new char[] {'`', '{', '@', 'A', 'Z', '[', (char) ('a' + 128), (char) ('z' + 128)}) {
            Texts.error(1, NIGHT + "person ^" + none + "a 5;");
            Texts.error(1, NIGHT + "person a^" + none + " 5;");
        }
        numberTokens();
        symbolsAndBlanks();
    }

    private static String filled(String text, int length) {
        return text + " ".repeat(length - text.length());
    }

    private static void numberTokens() {
        Sentence.of(TERMS, "numbers (maximal runs of 1 to 5 digits; ");
        Texts.right("night 1 2 3 4;", 0);
        Texts.right("night 00022 00006 00005 00240;", 0);
        Texts.right("night 09 19 09 90;", 0);
        Texts.error(1, "night ^000022 6 5 240;");
        Texts.error(1, "night 22 6 5 ^000240;");
        Texts.error(2, "night 22 6 5 ^12345;");
        Texts.error(1, "night 22 6 5 ^123456;");
        Texts.error(1, "night 22 6 5^/;");
        Texts.error(1, "night 22 6 5^:;");
        Texts.error(1, "night 22 6 5 24^" + (char) ('0' + 128) + ";");

        Sentence.of(TERMS, "leading zeros do not matter)");
        BrigadePagers x = Check.brigade("night 00000 00001 00005 00240;person a 00000;person b 0008;person c 08;person d 0120;");
        int[] arrivals = {5, 13, 13, 125};
        for (int person = 0; person < 4; person++) {
            Check.due("arrival(" + person + ")", x.arrival(person), arrivals[person]);
        }
        Check.due("nightMinutes(0, 1440)", x.nightMinutes(0, 1440), 60);
    }

    private static void symbolsAndBlanks() {
        Sentence.of(TERMS, "and the one-byte symbols \";\" and \":\".");
        Texts.right(ABPE + "kind k 1 0 1:p:e;", 2);
        Texts.error(1, NIGHT + "^;");
        Texts.error(1, NIGHT + "person a 5^:");
        Texts.error(1, ABPE + "kind k 1 0 1:^:p:e;");
        Texts.error(1, ABPE + "kind k 1 0 1^;p:e;");
        Texts.error(1, "night 22 6 5 240^<");
        Texts.error(1, "night 22 6 5 240 ^9;");

        Sentence.of(TERMS, "Blanks (bytes 10 and 32) may stand before, between and behind tokens.");
        Texts.right(" \n night\n22 \n 6 5\n240\n ; \n person a 5\n;\n", 1);
        Texts.right("night 22 6 5 240;person\na\n5chief\n;", 1);
        for (int none : new int[] {0, 9, 11, 12, 13, 31, 33, 127, 133, 128 + 10, 128 + 32, 255}) {
            Texts.error(1, "^" + (char) none + NIGHT);
            Texts.error(1, "night^" + (char) none + "22 6 5 240;");
            Texts.error(1, "night 22 ^" + (char) none + " 6 5 240;");
            Texts.error(1, "night 22 6 5 240^" + (char) none + ";");
            Texts.error(1, NIGHT + "^" + (char) none);
        }
    }

    // ---- the grammar

    private static final String[] SECTION_BASES = {AB, ABT, ABP, ABPE, ABPEK};
    private static final String[] SECTION_ITEMS = {"person c 5;", "trust b a 3;", "pager q 0 1 a;", "engine f 5 any;",
        "kind l 1 0 1:p:e;"};

    private static void grammar() {
        Sentence.of(TERMS, "text = \"night\" number number number number \";\" "
                + "{ person \";\" } { trust \";\" } { pager \";\" } { engine \";\" } { kind \";\" }.");
        Texts.right(NIGHT, 0);
        Texts.error(1, "^" + NIGHT.substring(6));
        Texts.error(1, NIGHT + "^" + NIGHT);
        Texts.error(1, "night 22 6 5^;");
        Texts.error(1, "night 22 6 5 240 ^5;");
        // Words that are alike but for the first letter or the last one.
        Texts.error(1, "^xight 22 6 5 240;");
        Texts.error(1, "^nighx 22 6 5 240;");
        for (int item = 0; item < 5; item++) {
            String rest = SECTION_ITEMS[item].substring(1);
            int end = SECTION_ITEMS[item].indexOf(' ');
            Texts.error(1, SECTION_BASES[item] + "^x" + rest);
            Texts.error(1, SECTION_BASES[item] + "^" + SECTION_ITEMS[item].substring(0, end - 1) + "x;");
            Texts.error(1, SECTION_BASES[item] + "^" + SECTION_ITEMS[item].substring(0, end) + "s;");
        }
        for (int before = 0; before < 5; before++) {
            Texts.right(SECTION_BASES[before], 2);
            for (int item = 0; item < 5; item++) {
                if (item < before) {
                    Texts.error(1, SECTION_BASES[before] + "^" + SECTION_ITEMS[item]);
                } else if (item < 4 || before > 2) {
                    Texts.right(SECTION_BASES[before] + SECTION_ITEMS[item], before + item == 0 ? 3 : item == 0 ? 3 : 2);
                }
            }
        }
        Texts.right(NIGHT + "engine e 5 any;", 0);
        repetitions();
        skillsAndPosts();
    }

    private static void repetitions() {
        Sentence.of(TERMS, "person = \"person\" name number { skill }.");
        Texts.right(NIGHT + "person a 5;", 1);
        Texts.right(NIGHT + "person a 5 smoke medic driver chief;", 1);
        Texts.error(1, NIGHT + "person a ^;");
        Texts.error(1, NIGHT + "person ^5;");
        Texts.error(1, NIGHT + "person a 5 ^6;");
        Sentence.of(TERMS, "trust = \"trust\" name name number.");
        Texts.error(1, AB + "trust a b ^;");
        Texts.error(1, AB + "trust a ^3;");
        Texts.error(1, AB + "trust ^3;");
        Texts.error(1, AB + "trust a b 3 ^4;");
        Sentence.of(TERMS, "pager = \"pager\" name number number name { name }.");
        Texts.right(AB + "pager p 0 1 a;pager q 0 1 a b;", 2);
        Texts.error(1, AB + "pager p 0 1 ^;");
        Texts.error(1, AB + "pager p 0 ^a;");
        Texts.error(1, AB + "pager p ^a;");
        Texts.error(1, AB + "pager ^0 1 a;");
        Texts.error(1, AB + "pager p 0 1 a ^1;");
        Sentence.of(TERMS, "engine = \"engine\" name number post { post }.");
        Texts.right(NIGHT + "engine e 5 any;engine f 5 any any;", 0);
        Texts.error(1, NIGHT + "engine e 5 ^;");
        Texts.error(1, NIGHT + "engine e ^any;");
        Texts.error(1, NIGHT + "engine ^5 any;");
        Texts.error(1, NIGHT + "engine e 5 any ^5;");
        Sentence.of(TERMS, "kind = \"kind\" name number number number \":\" name { name } \":\" name { name }.");
        Texts.right(ABP + "pager q 0 1 b;engine e 5 any;engine f 5 any;kind k 1 0 1:p:e;kind l 1 0 1:p q:e f;", 2);
        Texts.error(1, ABPE + "kind k 1 0 1:^:e;");
        Texts.error(1, ABPE + "kind k 1 0 1:p:^;");
        Texts.error(1, ABPE + "kind k 1 0 1:p^;");
        Texts.error(1, ABPE + "kind k 1 0 1 ^p:e;");
        Texts.error(1, ABPE + "kind k 1 0^:p:e;");
        Texts.error(1, ABPE + "kind ^1 0 1:p:e;");
        Texts.error(1, ABPE + "kind k 1 0 1:p:e^:");
        Texts.error(1, ABPE + "kind k 1 0 1:p:e ^1;");
    }

    private static void skillsAndPosts() {
        String[] skills = {"chief", "driver", "medic", "smoke"};
        Sentence.of(TERMS, "skill = \"chief\" | \"driver\" | \"medic\" | \"smoke\".");
        for (String skill : skills) {
            Texts.right(NIGHT + "person a 5 " + skill + ";", 1);
            Texts.error(1, NIGHT + "person a 5 ^" + skill.substring(1) + ";");
            Texts.error(1, NIGHT + "person a 5 ^x" + skill.substring(1) + ";");
            Texts.error(1, NIGHT + "person a 5 ^" + skill.substring(0, 4) + "s;");
            Texts.error(1, NIGHT + "person a 5 ^" + skill + "s;");
        }
        Texts.error(1, NIGHT + "person a 5 ^any;");
        Sentence.of(TERMS, "post = \"any\" | skill.");
        Texts.right(NIGHT + "engine e 5 any;", 0);
        Texts.error(1, NIGHT + "engine e 5 ^an;");
        Texts.error(1, NIGHT + "engine e 5 ^anyb;");
        for (String skill : skills) {
            Texts.right(NIGHT + "engine e 5 " + skill + ";", 0);
            Texts.error(1, NIGHT + "engine e 5 ^" + skill + "s;");
        }
    }

    // ---- what the numbers and names may be

    /** Takes the least and the greatest number; one that is just beyond them has code 2. The sign # stands for it. */
    private static void range(String words, String text, int least, int greatest) {
        Sentence.of(TERMS, words);
        int persons = personsIn(text);
        Texts.right(text.replace("#", "" + least), persons);
        Texts.right(text.replace("#", "" + greatest), persons);
        if (least > 0) {
            Texts.error(2, text.replace("#", "^" + (least - 1)));
        }
        Texts.error(2, text.replace("#", "^" + (greatest + 1)));
        Texts.error(2, text.replace("#", "^99999"));
        Texts.error(1, text.replace("#", "^-1"));
    }

    private static int personsIn(String text) {
        return text.split("person ", -1).length - 1;
    }

    private static void numbersOfTheText() {
        range("the hour in which the night begins (0 to 23), ", "night # 6 5 240;", 0, 23);
        range("the hour in which it ends (0 to 23, ", "night 22 # 5 240;", 0, 23);
        Sentence.of(TERMS, "another one), ");
        for (String equal : new String[] {"0 ^0", "23 ^23", "7 ^7", "22 ^00022"}) {
            Texts.error(2, "night " + equal + " 5 240;");
        }
        Texts.right("night 22 21 5 240;", 0);
        Texts.right("night 22 23 5 240;", 0);
        Texts.right("night 23 0 5 240;", 0);
        range("the wake time (0 to 30 minutes) ", "night 22 6 # 240;", 0, 30);
        range("the sleep limit (1 to 999 minutes).", "night 22 6 5 #;", 1, 999);
        range("a travel time to the station (0 to 120 minutes) ", NIGHT + "person a #;", 0, 120);
        range("how much the first one trusts the second one (0 to 9); ", AB + "trust a b #;", 0, 9);
        Sentence.of(TERMS, "persons for which there is no trust in the text trust each other 0.");
        BrigadePagers x = Check.brigade(NIGHT + "person a 5;person b 5;person c 5;trust a b 9;");
        int[][] due = {{0, 1, 9}, {1, 0, 0}, {0, 2, 0}, {2, 0, 0}, {1, 2, 0}, {2, 1, 0}};
        for (int[] row : due) {
            Check.due("trust(" + row[0] + ", " + row[1] + ")", x.trust(row[0], row[1]), row[2]);
        }
        range("a demand (0 to 9), ", AB + "pager p # 1 a;", 0, 9);
        range("the length of its turns (1 to 168 hours) ", AB + "pager p 0 # a;", 1, 168);
        range("a drive time (0 to 120 minutes) ", NIGHT + "engine e # any;", 0, 120);
        range("a duration (1 to 999 minutes), ", ABPE + "kind k # 0 1:p:e;", 1, 999);
        range("a patience (0 to 240 minutes), ", ABPE + "kind k 1 # 1:p:e;", 0, 240);
        range("a need (1 to 5), ", ABPE + "kind k 1 0 #:p:e;", 1, 5);
        numbersThatAreUsed();
    }

    /** That the least and the greatest numbers are taken as what they are. */
    private static void numbersThatAreUsed() {
        BrigadePagers x = Check.brigade("night 23 0 30 999;person a 120;person b 0;pager p 0 1 b;pager q 9 168 a;engine e 120 any;"
                + "engine f 0 any;kind k 999 240 1:q:e;kind l 1 0 1:p:f;kind m 1 240 5:p:f;");
        Check.passTo(x, 1380);
        Check.due("arrival(0) with the greatest numbers", x.arrival(0), 150);
        Check.due("holdingEnd of the shortest turn", x.holdingEnd(0), 1440);
        Check.due("holdingEnd of the longest turn", x.holdingEnd(1), 10080);
        x.call(0);
        Check.due("returnsAt with the greatest numbers", x.returnsAt(0), 1380 + 150 + 240 + 999);
        Check.due("whyAbsent with patience 0", x.whyAbsent(1, 1), 5);
        x.pass(60);
        Check.due("whyAbsent by day with patience 0", x.whyAbsent(1, 1), 0);
        Check.due("wouldAnswer with the least need", x.wouldAnswer(1), true);
        Check.due("wouldAnswer with the greatest need", x.wouldAnswer(2), false);
        x.call(1);
        Check.due("returnsAt with the least numbers", x.returnsAt(1), 1441);
        Check.due("whyNotHandOn with the greatest demand", x.whyNotHandOn(1, 1, 1500), 1);
    }

    private static void namesOfTheText() {
        Sentence.of(TERMS, "the skills, each of them once at most.");
        for (String skill : new String[] {"chief", "driver", "medic", "smoke"}) {
            Texts.error(3, NIGHT + "person a 5 " + skill + " ^" + skill + ";");
            Texts.error(3, NIGHT + "person a 5 chief driver medic smoke ^" + skill + ";");
            Texts.right(NIGHT + "person a 5 " + skill + ";person b 5 " + skill + ";", 2);
        }
        Sentence.of(TERMS, "its rotation: the names of 1 to 8 persons, ");
        Texts.right(AB + "pager p 0 1 a;", 2);
        Texts.right(TWELVE + "pager p 0 1 a b c d e f g h;", 12);
        Texts.error(1, AB + "pager p 0 1^;");
        Texts.error(5, TWELVE + "pager p 0 1 a b c d e f g h ^i;");
        Sentence.of(TERMS, "of which some may be the same.");
        Texts.right(AB + "pager p 0 1 a a;pager q 0 1 b b b b b b b b;", 2);
        Sentence.of(TERMS, "1 to 6 posts.");
        Texts.right(NIGHT + "engine e 5 chief;engine f 5 chief chief chief chief chief chief;", 0);
        Texts.error(1, NIGHT + "engine e 5^;");
        Texts.error(5, NIGHT + "engine e 5 chief chief chief chief chief chief ^chief;");
        Sentence.of(TERMS, "the names of different pagers, ");
        String all = TWELVE + Texts.many("pager ", 6, " 0 1 a;") + Texts.many("engine ", 5, " 5 any;");
        Texts.right(all + "kind k 1 0 1:f e d c b a:a;kind l 1 0 1:a:a;", 12);
        Texts.error(3, all + "kind k 1 0 1:a b c d e f ^a:a;");
        Texts.error(3, all + "kind k 1 0 1:a b c d e f ^f:a;");
        Texts.error(3, all + "kind k 1 0 1:c ^c:a;");
        Sentence.of(TERMS, "the names of different engines.");
        Texts.right(all + "kind k 1 0 1:a:e d c b a;kind l 1 0 1:a:a;", 12);
        Texts.error(3, all + "kind k 1 0 1:a:a b c d e ^a;");
        Texts.error(3, all + "kind k 1 0 1:a:a b c d e ^e;");
        Texts.error(3, all + "kind k 1 0 1:a:d ^d;");
        lettersOfNames();
        namesOnlyOnce();
    }

    private static void lettersOfNames() {
        Sentence.of(TERMS, "A name is a word of 1 to 8 letters ");
        String[] texts = {NIGHT + "person # 5;", NIGHT + "engine # 5 any;", AB + "pager # 0 1 a;", ABPE + "kind # 1 0 1:p:e;"};
        for (String text : texts) {
            int persons = personsIn(text);
            Texts.right(text.replace("#", "z"), persons);
            Texts.right(text.replace("#", "eightlet"), persons);
            Texts.error(1, text.replace("#", "^" + "ninelette"));
        }
        Sentence.of(TERMS, "(also one that the grammar has).");
        String[] words = {"text", "night", "person", "trust", "pager", "engine", "kind", "skill", "post", "any", "chief",
            "driver"};
        for (String word : words) {
            BrigadePagers x = Check.brigade(NIGHT + "person " + word + " 5;person b 6;trust " + word + " b 4;trust b " + word
                    + " 5;pager " + word + " 0 1 " + word + " " + word + " b;engine " + word + " 5 any chief;kind " + word
                    + " 1 0 1:" + word + ":" + word + ";");
            for (int sort = 0; sort < 4; sort++) {
                Check.due("find of " + word, Check.find(x, sort, word), 0);
            }
            Check.due("trust(0, 1) of " + word, x.trust(0, 1), 4);
            Check.due("rotation(0, 2) of " + word, x.rotation(0, 2), 1);
        }
    }

    private static void namesOnlyOnce() {
        Sentence.of(TERMS, "No two persons have the same name, ");
        Texts.error(3, NIGHT + "person a 5;person ^a 5;");
        Texts.error(3, NIGHT + Texts.many("person ", 11, " 5;") + "person ^a 5;");
        Texts.error(3, NIGHT + Texts.many("person ", 11, " 5;") + "person ^k 5;");
        Texts.right(NIGHT + "person a 5;person aa 5;person eightlet 5;person eightles 5;person fightlet 5;", 5);
        Sentence.of(TERMS, "no two pagers, ");
        Texts.error(3, AB + Texts.many("pager ", 5, " 0 1 a;") + "pager ^a 0 1 a;");
        Texts.error(3, AB + Texts.many("pager ", 5, " 0 1 a;") + "pager ^e 0 1 a;");
        Sentence.of(TERMS, "no two engines and no two kinds.");
        Texts.error(3, NIGHT + Texts.many("engine ", 4, " 5 any;") + "engine ^a 5 any;");
        Texts.error(3, NIGHT + Texts.many("engine ", 4, " 5 any;") + "engine ^d 5 any;");
        Texts.error(3, ABPE + Texts.many("kind ", 5, " 1 0 1:p:e;") + "kind ^a 1 0 1:p:e;");
        Texts.error(3, ABPE + Texts.many("kind ", 5, " 1 0 1:p:e;") + "kind ^e 1 0 1:p:e;");
        Texts.right(NIGHT + "person a 5;pager a 0 1 a;engine a 5 any;kind a 1 0 1:a:a;", 1);
    }

    private static void roomOfTheText() {
        Sentence.of(TERMS, "There are at most 12 persons, ");
        Texts.right(TWELVE, 12);
        Texts.error(5, TWELVE + "^person m 5;");
        Sentence.of(TERMS, "24 trusts, ");
        Texts.right(TWELVE + Texts.trusts(24), 12);
        Texts.error(5, TWELVE + Texts.trusts(24) + "^trust l a 3;");
        BrigadePagers x = Check.brigade(TWELVE + Texts.trusts(24));
        Check.due("the last trust", x.trust(2, 1), 3);
        Check.due("one that is not in the text", x.trust(2, 3), 0);
        Sentence.of(TERMS, "6 pagers, ");
        Texts.right(AB + Texts.many("pager ", 6, " 0 1 a;"), 2);
        Texts.error(5, AB + Texts.many("pager ", 6, " 0 1 a;") + "^pager g 0 1 a;");
        Sentence.of(TERMS, "5 engines and ");
        Texts.right(NIGHT + Texts.many("engine ", 5, " 5 any;"), 0);
        Texts.error(5, NIGHT + Texts.many("engine ", 5, " 5 any;") + "^engine f 5 any;");
        Sentence.of(TERMS, "6 kinds.");
        Texts.right(ABPE + Texts.many("kind ", 6, " 1 0 1:p:e;"), 2);
        Texts.error(5, ABPE + Texts.many("kind ", 6, " 1 0 1:p:e;") + "^kind g 1 0 1:p:e;");
    }

    // ---- errors

    private static void positions() {
        Sentence.of(TERMS, "The position of an error is the byte offset of the first byte of a token; ");
        Texts.error(1, "^nigh 22 6 5 240;");
        Texts.error(1, " \n^nigh 22 6 5 240;");
        Texts.error(2, "night   ^99999 6 5 240;");
        Texts.error(1, "night22^:");
        Texts.error(3, NIGHT + "person eightlet 5;person\n\n^eightlet 5;");
        Texts.error(1, filled(NIGHT, 1199) + "^;");
        Texts.error(1, filled(NIGHT, 1192) + "^eightlet");
        Sentence.of(TERMS, "the end has the text length as its position.");
        Texts.error(1, "^");
        Texts.error(1, " ^");
        Texts.error(1, "\n\n\n^");
        Texts.error(1, "night^");
        Texts.error(1, "night \n ^");
        Texts.error(1, "night 22 6 5 240^");
        Texts.error(1, filled("night 22 6 5 240", 1200) + "^");
        Texts.error(1, filled("night 22 6 5 240", 1199) + "^");
        Texts.error(1, "night 22 6 5 " + " ".repeat(1184) + "240^");
        Texts.error(1, filled(NIGHT, 1194) + "person^");
    }

    private static void firstErrors() {
        Sentence.of(TERMS, "The first error from the left is reported; ");
        Texts.error(2, "night ^24 24 31 0");
        Texts.error(1, "night 22 ^x 31 0;");
        Texts.error(2, "night 22 6 ^31 0;person a 121 any");
        Texts.error(3, AB + "person ^a 121 any;");
        Texts.error(2, AB + "person c ^121 any chief chief;");
        Texts.error(4, AB + "trust ^x x 10;");
        Texts.error(6, AB + "trust a ^a 10;");
        Texts.error(2, AB + "pager p ^10 0 x;");
        Texts.error(4, AB + "pager p 9 168 ^x y ninelette;");
        Texts.error(3, ABPE + "kind k 999 240 5:p ^p x:e e;");
        Sentence.of(TERMS, "of several at the same position, the one with the lowest code.");
        // 1 before 2: a number with too many digits is out of range, too.
        Texts.error(1, "night ^100000 6 5 240;");
        // 1 before 4: a word that is too long for a name is the name of nobody.
        Texts.error(1, AB + "trust ^ninelette a 3;");
        // 1 before 5: there is no room for what cannot stand there, too.
        Texts.error(1, TWELVE + "trust a b 3;^person m 5;");
        Texts.error(1, AB + Texts.many("pager ", 6, " 0 1 a;") + "engine e 5 any;^pager g 0 1 a;");
        Texts.error(1, AB + "pager p 0 1 a a a a a a a a ^ninelette;");
        Texts.error(1, NIGHT + "engine e 5 any any any any any any ^x;");
        // 4 before 5.
        Texts.error(4, AB + "pager p 0 1 a a a a a a a a ^x;");
    }

    private static final String[] SIGNS_OF_ALL = {"night", "22", "6", "5", "240", ";", "person", "a", "5", "chief", ";", "person",
        "b", "0", ";", "trust", "a", "b", "3", ";", "pager", "p", "0", "1", "a", "b", ";", "engine", "e", "5", "any", "chief",
        ";", "kind", "k", "1", "0", "1", ":", "p", ":", "e", ";"};

    private static void codeOne() {
        Sentence.of(TERMS, "Code 1: a token that cannot stand there, ");
        // A wrong token in the place of each one in turn.
        StringBuilder before = new StringBuilder();
        for (String token : SIGNS_OF_ALL) {
            String wrong = Character.isDigit(token.charAt(0)) ? ";" : token.equals(";") || token.equals(":") ? "5" : ":";
            Texts.error(1, before + "^" + wrong);
            before.append(token).append(' ');
        }
        Sentence.of(TERMS, "a run of more than 5 digits, ");
        Texts.right("night 22 6 5 00240;", 0);
        Texts.error(1, "night 22 6 5 ^000240;");
        Texts.error(1, "night 22 6 5 ^000000000000000000000240;");
        Texts.error(1, NIGHT + "^000000");
        Texts.error(1, "night 22 6 5 ^4294967536;");
        wordsTooLong();
        bytesOfNoToken();
        theEnd();
    }

    private static void wordsTooLong() {
        Sentence.of(TERMS, "a word of more than 8 letters where a name must stand, ");
        Texts.error(1, NIGHT + "person ^ninelette 5;");
        Texts.error(1, AB + "trust ^ninelette b 3;");
        Texts.error(1, AB + "trust a ^ninelette 3;");
        Texts.error(1, AB + "pager ^ninelette 0 1 a;");
        Texts.error(1, AB + "pager p 0 1 ^ninelette;");
        Texts.error(1, AB + "pager p 0 1 a ^ninelette;");
        Texts.error(1, NIGHT + "engine ^ninelette 5 any;");
        Texts.error(1, ABPE + "kind ^ninelette 1 0 1:p:e;");
        Texts.error(1, ABPE + "kind k 1 0 1:^ninelette:e;");
        Texts.error(1, ABPE + "kind k 1 0 1:p ^ninelette:e;");
        Texts.error(1, ABPE + "kind k 1 0 1:p:^ninelette;");
        Texts.error(1, ABPE + "kind k 1 0 1:p:e ^ninelette;");
        Texts.error(1, NIGHT + "person ^" + "a".repeat(100) + " 5;");
        // A ninth letter that is lost would make a name of the rest.
        Texts.error(1, NIGHT + "person a 5;person eightlet 5;trust ^aeightlet a 3;");
        Texts.error(1, NIGHT + "person a 5;person eightlet 5;trust ^eightleta a 3;");
    }

    private static void bytesOfNoToken() {
        Sentence.of(TERMS, "a byte that starts no token, ");
        for (int one = 0; one < 256; one++) {
            char sign = (char) one;
            boolean isLetter = sign >= 'a' && sign <= 'z';
            boolean isDigit = sign >= '0' && sign <= '9';
            boolean isBlank = sign == '\n' || sign == ' ';
            String before = NIGHT + "person a";
            if (isLetter) {
                Texts.right(before + sign + "b 5;", 1);
            } else if (isDigit) {
                Texts.error(1, before + sign + "^b 5;");
            } else if (isBlank) {
                Texts.error(1, before + sign + "^b 5;");
            } else if (sign != '^') {
                Texts.error(1, before + "^" + sign + "b 5;");
                Texts.error(1, "night 22 6 5 240^" + (sign == ';' ? ":" : sign) + ";");
            }
        }
        BrigadePagers x = new BrigadePagers();
        Check.put(x, NIGHT + "^");
        Check.refused("load() with the sign ^", NO_ARGUMENT, () -> x.load());
        Check.due("its position", x.errorPosition(), 17);
    }

    private static void theEnd() {
        Sentence.of(TERMS, "or the end.");
        StringBuilder text = new StringBuilder();
        for (String token : SIGNS_OF_ALL) {
            text.append(token);
            if (token.equals(";")) {
                int persons = personsIn(text.toString());
                Texts.right(text.toString(), persons);
                Texts.right(text + " \n", persons);
            } else {
                Texts.error(1, text + "^");
                Texts.error(1, text + " \n^");
            }
            text.append(' ');
        }
    }

    private static void codes() {
        Sentence.of(TERMS, "Code 2: a number is out of range, ");
        Texts.error(2, "night ^24 6 5 240;");
        Texts.error(2, ABPE + "kind k 1 0 ^6:p:e;");
        Sentence.of(TERMS, "also the second hour of night if it is equal to the first one.");
        Texts.error(2, "night 22 ^22 31 240;");
        Texts.error(2, "night 0 ^00000");
        Sentence.of(TERMS, "Code 3: the new name of a person, pager, engine or kind that another one of the same sort has; ");
        Texts.error(3, AB + "person ^b 5;");
        Texts.error(3, ABP + "pager ^p 0 1 a;");
        Texts.error(3, ABPE + "engine ^e 5 any;");
        Texts.error(3, ABPEK + "kind ^k 1 0 1:p:e;");
        Texts.right(AB + "pager a 0 1 a;engine a 5 any;kind a 1 0 1:a:a;", 2);
        Sentence.of(TERMS, "a skill that this person has already; ");
        Texts.error(3, NIGHT + "person a 5 smoke ^smoke;");
        Texts.right(NIGHT + "person a 5 smoke;person b 5 smoke;", 2);
        Sentence.of(TERMS, "the second name of a trust if the text has a trust for these two persons in this order already; ");
        Texts.error(3, AB + "trust a b 3;trust a ^b 3;");
        Texts.error(3, AB + "trust a b 0;trust b a 0;trust b ^a 10;");
        Texts.right(AB + "trust a b 3;trust b a 3;", 2);
        Sentence.of(TERMS, "a pager or an engine that this kind has already.");
        Texts.error(3, ABPE + "kind k 1 0 1:p ^p:e;");
        Texts.error(3, ABPE + "kind k 1 0 1:p:e ^e;");
        Texts.right(ABPEK + "kind l 1 0 1:p:e;", 2);
        codesFourToSix();
    }

    private static void codesFourToSix() {
        Sentence.of(TERMS, "Code 4: the name of no person, pager or engine where one must be named.");
        Texts.error(4, AB + "trust ^c a 3;");
        Texts.error(4, AB + "trust a ^c 3;");
        Texts.error(4, NIGHT + "trust ^a b 3;");
        Texts.error(4, NIGHT + "pager p 0 1 ^a;");
        Texts.error(4, AB + "pager p 0 1 ^p;");
        Texts.error(4, AB + "pager p 0 1 a b ^c;");
        Texts.error(4, ABPE + "kind k 1 0 1:^e:e;");
        Texts.error(4, ABPE + "kind k 1 0 1:^a:e;");
        Texts.error(4, ABPE + "kind k 1 0 1:p:^p;");
        Texts.error(4, ABPE + "kind k 1 0 1:p:e ^k;");
        Texts.error(4, NIGHT + "kind k 1 0 1:^p:e;");
        Texts.error(4, ABP + "kind k 1 0 1:p:^e;");
        Sentence.of(TERMS, "Code 5: the word person, trust, pager, engine or kind of one for which there is no room any more; ");
        Texts.error(5, TWELVE + "^person a 121");
        Texts.error(5, TWELVE + "^person");
        Texts.error(5, TWELVE + Texts.trusts(24) + "^trust x");
        Texts.error(5, AB + Texts.many("pager ", 6, " 0 1 a;") + "^pager a");
        Texts.error(5, NIGHT + Texts.many("engine ", 5, " 5 any;") + "^engine a");
        Texts.error(5, ABPE + Texts.many("kind ", 6, " 1 0 1:p:e;") + "^kind a");
        Sentence.of(TERMS, "the ninth name of a rotation; ");
        Texts.right(AB + "pager p 0 1 a b a b a b a b;", 2);
        Texts.error(5, AB + "pager p 0 1 a b a b a b a b ^a;");
        Texts.error(5, AB + "pager p 0 1 a b a b a b a b ^b x 7");
        Sentence.of(TERMS, "the seventh post of an engine.");
        Texts.right(NIGHT + "engine e 5 any chief driver medic smoke any;", 0);
        Texts.error(5, NIGHT + "engine e 5 any chief driver medic smoke any ^any;");
        Texts.error(5, NIGHT + "engine e 5 any chief driver medic smoke any ^smoke x 7");
        Sentence.of(TERMS, "Code 6: the second name of a trust if it is the first one.");
        Texts.error(6, AB + "trust a ^a 3;");
        Texts.error(6, AB + "trust b ^b 99999;");
        Texts.error(6, TWELVE + Texts.trusts(23) + "trust l ^l 3;");
    }

    // ---- promises 1 to 8

    private static void newObject() {
        Sentence.of(1, "Creates a brigade for the text \"night 22 6 5 240;\", ");
        BrigadePagers x = new BrigadePagers();
        Check.due("all answers", Snapshot.of(x), Snapshot.of(Check.brigade("night 22 6 5 240;")));
        int[] night = {0, 1, 359, 1, 360, 0, 1319, 0, 1320, 1, 1439, 1, 1440, 1, 20159, 1};
        for (int at = 0; at < night.length; at += 2) {
            Check.due("the night at " + night[at], x.nightMinutes(night[at], night[at] + 1), night[at + 1]);
        }
        for (int sort = 0; sort < 5; sort++) {
            Check.due("count(" + sort + ")", x.count(sort), 0);
        }
        Sentence.of(1, "with an empty text buffer.");
        Check.refused("truncate(1)", NO_INDEX, () -> new BrigadePagers().truncate(1));
        Check.due("truncate(0)", new BrigadePagers().truncate(0), 0);
        Check.due("append()", new BrigadePagers().append(0, 0, 0, 0, 0), 20);
        Check.refused("find(0)", NONE_SUCH, () -> new BrigadePagers().find(0));
        Texts.error(1, "^");
    }

    private static final int[] BLANKS = {0x20202020, 0x20202020, 0x20202020, 0x20202020, 0x20202020};

    private static void append() {
        Sentence.of(2, "Appends 20 bytes to the text buffer: ");
        Check.due("load()", Check.brigade(filled(NIGHT, 20) + "person a 5;").count(0), 1);
        for (int argument = 0; argument < 5; argument++) {
            Sentence.of(2, "`" + Texts.letter(argument) + "`: bytes " + 4 * argument + " to " + (4 * argument + 3));
            oneStrangeByte(4 * argument);
            oneStrangeByte(4 * argument + 3);
        }
        Sentence.of(2, "the four bytes of each argument in order, the most significant byte first.");
        for (int at = 0; at < 20; at++) {
            oneStrangeByte(at);
        }
        BrigadePagers x = Check.brigade(NIGHT + "person abcd 5;person dcba 5;");
        x.append(0x61626364, -1, -1, -1, -1);
        x.truncate(4);
        Check.due("find(0) of four bytes", x.find(0), 0);

        Sentence.of(2, "Returns the new length of the buffer.");
        BrigadePagers y = new BrigadePagers();
        for (int length = 20; length <= 1200; length += 20) {
            Check.due("append()", y.append(Integer.MIN_VALUE, Integer.MAX_VALUE, 0, -1, 0x20202020), length);
        }
        y.truncate(1);
        Check.due("append() to one byte", y.append(0, 0, 0, 0, 0), 21);
        appendBeyond();
    }

    private static void oneStrangeByte(int at) {
        for (int strange : new int[] {0, 1, 127, 128, 255}) {
            int[] words = BLANKS.clone();
            int shift = 24 - at % 4 * 8;
            words[at / 4] = words[at / 4] & ~(255 << shift) | strange << shift;
            BrigadePagers x = new BrigadePagers();
            Check.put(x, NIGHT);
            x.append(words[0], words[1], words[2], words[3], words[4]);
            Check.refused("load() with the byte " + strange, NO_ARGUMENT, () -> x.load());
            Check.due("its position", x.errorPosition(), 17 + at);
        }
    }

    private static BrigadePagers holding(int length) {
        BrigadePagers x = Scenes.busy();
        x.truncate(0);
        Check.put(x, length == 0 ? "" : filled("b", length));
        return x;
    }

    private static void appendBeyond() {
        Sentence.of(2, "Throws `IllegalStateException` if the length would exceed 1200");
        Check.due("append() to 1180 bytes", holding(1180).append(0, 0, 0, 0, 0), 1200);
        for (int length : new int[] {1181, 1190, 1199, 1200}) {
            Refusal.due("append() to " + length + " bytes", NO_STATE, () -> holding(length), x -> x.append(0, 0, 0, 0, 0));
        }
        // What is in the buffer stays as it is, to the last byte.
        BrigadePagers x = new BrigadePagers();
        Check.put(x, filled(NIGHT, 1188) + "person a 5;");
        Check.refused("append() to 1199 bytes", NO_STATE, () -> x.append(0, 0, 0, 0, 0));
        Check.due("load() after it", x.load(), 1);
    }

    private static void truncate() {
        Sentence.of(3, "Truncates the text buffer.");
        BrigadePagers x = Check.brigade(AB);
        Check.put(x, "ba");
        x.truncate(1);
        Check.due("find(0) of what is left", x.find(0), 1);
        Check.put(x, "ab");
        x.truncate(1);
        Check.due("append() after it", x.append(0x20202020, 0, 0, 0, 0), 21);
        x.truncate(0);
        Check.refused("find(0) of nothing", NONE_SUCH, () -> x.find(0));
        // What was cut off is not read, not even as the end of a token.
        String[] cut = {"night 22 6 5 240|0;", "night 22 6 5 240| ;", "nigh|t 22 6 5 240;", "night| 22 6 5 240;",
            NIGHT + "person a 5|;", NIGHT + "person a 5 chief|s;", NIGHT + "|x"};
        for (String text : cut) {
            int length = text.indexOf('|');
            BrigadePagers y = new BrigadePagers();
            Check.put(y, text.replace("|", ""));
            y.truncate(length);
            if (length == NIGHT.length()) {
                Check.due("load() of " + text, y.load(), 0);
            } else {
                Check.refused("load() of " + text, NO_ARGUMENT, () -> y.load());
                Check.due("errorCode() of " + text, y.errorCode(), 1);
                Check.due("errorPosition() of " + text, y.errorPosition(), text.startsWith("nigh|") ? 0 : length);
            }
        }
        Sentence.of(3, "Returns the new length.");
        Check.due("truncate(0) of nothing", new BrigadePagers().truncate(0), 0);
        for (int length : new int[] {1200, 1199, 20, 1, 0}) {
            Check.due("truncate(" + length + ")", holding(1200).truncate(length), length);
        }
        Check.due("truncate(7) of 7", holding(7).truncate(7), 7);
        Sentence.of(3, "Throws `IndexOutOfBoundsException` if length is negative or greater than the current length");
        for (int length : new int[] {0, 1, 19, 1200}) {
            for (int wrong : new int[] {-1, length + 1, 1201, Integer.MIN_VALUE, Integer.MAX_VALUE}) {
                Refusal.due("truncate(" + wrong + ") of " + length, NO_INDEX, () -> holding(length), y -> y.truncate(wrong));
            }
        }
    }

    private static void bufferIsEmpty(String when, BrigadePagers x) {
        Check.refused("truncate(1) " + when, NO_INDEX, () -> x.truncate(1));
        Check.due("append() " + when, x.append(0, 0, 0, 0, 0), 20);
        x.truncate(0);
    }

    private static void load() {
        Sentence.of(4, "Loads the text; everything begins anew with it, ");
        for (String text : new String[] {NIGHT, AB, Scenes.TEXT, TWELVE}) {
            BrigadePagers x = Scenes.busy();
            x.truncate(0);
            Check.put(x, text);
            x.load();
            Check.due("all answers", Snapshot.of(x), Snapshot.of(Check.brigade(text)));
            Sentence.of(4, "and no change can be undone then.");
            Check.refused("undo()", NO_STATE, () -> x.undo());
            Sentence.of(4, "everything begins anew with it, ");
            Check.refused("restore(0)", NONE_SUCH, () -> x.restore(0));
            Check.refused("restore(1)", NONE_SUCH, () -> x.restore(1));
        }
        loadAgain();
        Sentence.of(4, "The buffer is empty afterwards in every case.");
        for (String text : new String[] {"", "x", NIGHT, filled(NIGHT, 1200), filled(NIGHT, 1199) + "x"}) {
            BrigadePagers x = new BrigadePagers();
            Check.put(x, text);
            try {
                x.load();
            } catch (IllegalArgumentException wrong) {
                Check.due("errorCode()", x.errorCode(), 1);
            }
            bufferIsEmpty("after load() of " + text.length() + " bytes", x);
        }
        Sentence.of(4, "Returns the number of persons.");
        Texts.right(NIGHT, 0);
        Texts.right(NIGHT + "person a 5;", 1);
        Texts.right(TWELVE, 12);
    }

    /** Nothing of any load() before is left, neither of what was full nor of what was wrong. */
    private static void loadAgain() {
        String all = TWELVE.replace("5;", "5 medic;") + Texts.trusts(24) + Texts.many("pager ", 6, " 0 1 a b c d e f g h;")
                + Texts.many("engine ", 5, " 5 any chief any medic any smoke;") + Texts.many("kind ", 6, " 1 240 1:f a:e a;");
        String few = NIGHT + "person b 5 chief;person a 6;trust b a 3;pager q 0 2 a b;pager r 0 2 b;engine f 5 any medic;"
                + "engine g 5 any;kind k 9 240 1:q r:f g;";
        String[] texts = {all, few, all, all + "x", few, few, NIGHT, "night 1", few, all, few + "person x 5;", few};
        BrigadePagers x = new BrigadePagers();
        String last = NIGHT;
        for (String text : texts) {
            BrigadePagers alone = new BrigadePagers();
            loadEither(alone, text);
            loadEither(x, text);
            Check.due("errorCode()", x.errorCode(), alone.errorCode());
            Check.due("errorPosition()", x.errorPosition(), alone.errorPosition());
            last = alone.errorCode() == 0 ? text : last;
            Check.due("all answers after load()", withoutError(x), withoutError(Check.brigade(last)));
        }
        // Calls that came before leave nothing behind, either.
        for (int kind = 0; kind < 6; kind++) {
            BrigadePagers called = Scenes.fullOfCalls();
            BrigadePagers fresh = new BrigadePagers();
            for (BrigadePagers one : new BrigadePagers[] {called, fresh}) {
                Check.put(one, Scenes.fullText());
                one.load();
                one.call(kind);
            }
            Check.due("all answers after load() and call(" + kind + ")", withoutError(called), withoutError(fresh));
        }
    }

    private static void loadRefused() {
        Sentence.of(4, "Throws `IllegalArgumentException` if the text has an error; everything else stays then, ");
        String[] wrong = {"", "night 1 2 30", NIGHT + "person z 120;person y 119 smoke;trust z y 9;x",
            Scenes.TEXT + "kind m 1 0 1:p:x;", Scenes.TEXT + ";", TWELVE + "person m 5;"};
        for (String text : wrong) {
            Check.due("all answers but the error after load() of " + text, withoutError(loaded(text)),
                    withoutError(loaded(null)));
            Check.due("undo() after load() of " + text, loaded(text).undo(), 4);
            for (int slot = 0; slot < 2; slot++) {
                BrigadePagers x = loaded(text);
                BrigadePagers y = loaded(null);
                x.restore(slot);
                y.restore(slot);
                Check.due("all answers after restore(" + slot + ")", withoutError(x), withoutError(y));
            }
        }
        Sentence.of(4, "but the error code and position are set");
        Check.due("errorCode()", loaded("night 22 22 5 240;").errorCode(), 2);
        Check.due("errorPosition()", loaded("night 22 22 5 240;").errorPosition(), 9);
    }

    /** The busy brigade after a load() that is refused; without one for null. */
    private static BrigadePagers loaded(String text) {
        BrigadePagers x = Scenes.busy();
        x.truncate(0);
        if (text != null) {
            Check.put(x, text);
            Check.refused("load() of " + text, NO_ARGUMENT, () -> x.load());
        }
        return x;
    }

    private static String withoutError(BrigadePagers x) {
        String all = Snapshot.of(x);
        return all.substring(all.indexOf('\n')) + x.nightMinutes(0, 720) + " " + x.nightMinutes(720, 1440);
    }

    private static void errorCodeAndPosition() {
        Sentence.of(5, "Returns the error code of the latest load().");
        BrigadePagers x = new BrigadePagers();
        String[] texts = {"", NIGHT, "night 24 6 5 240;", AB + "trust a a 3;", NIGHT, AB + "person a 5;", AB + "trust a c 5;",
            TWELVE + "person m 5;", NIGHT};
        int[] codes = {1, 0, 2, 6, 0, 3, 4, 5, 0};
        int[] positions = {0, -1, 6, 47, -1, 46, 47, TWELVE.length(), -1};
        for (int at = 0; at < texts.length; at++) {
            loadEither(x, texts[at]);
            Check.due("errorCode() after load() of " + texts[at], x.errorCode(), codes[at]);
            x.pass(1);
            Check.due("errorCode() later", x.errorCode(), codes[at]);
        }
        Sentence.of(5, "Returns 1 to 6; 0 if there was no error or no call yet.");
        Check.due("errorCode() of a new object", new BrigadePagers().errorCode(), 0);
        Check.due("errorCode() without an error", Check.brigade(AB).errorCode(), 0);
        for (int code = 1; code <= 6; code++) {
            Texts.error(code, new String[] {"^", "night ^24", AB + "person ^a", AB + "trust ^c", TWELVE + "^person",
                AB + "trust a ^a"}[code - 1]);
        }
        Sentence.of(6, "Returns the position of the error of the latest load().");
        for (int at = 0; at < texts.length; at++) {
            loadEither(x, texts[at]);
            Check.due("errorPosition() after load() of " + texts[at], x.errorPosition(), positions[at]);
            x.pass(1);
            Check.due("errorPosition() later", x.errorPosition(), positions[at]);
        }
        Sentence.of(6, "Returns the position; NONE if there was no error or no call yet.");
        Check.due("errorPosition() of a new object", new BrigadePagers().errorPosition(), BrigadePagers.NONE);
        Check.due("errorPosition() without an error", Check.brigade(AB).errorPosition(), BrigadePagers.NONE);
        Texts.error(1, "^x");
        Texts.error(1, filled("night 22 6 5 240", 1200) + "^");
        Sentence.of(TERMS, "`NONE = -1`: There is no such value.");
        Check.due("NONE", BrigadePagers.NONE, -1);
    }

    private static void loadEither(BrigadePagers x, String text) {
        Check.put(x, text);
        try {
            x.load();
        } catch (IllegalArgumentException wrong) {
            bufferIsEmpty("after it", x);
        }
    }

    private static void find() {
        Sentence.of(7, "Finds a thing whose name is the content of the text buffer, byte by byte.");
        BrigadePagers x = Check.brigade(NIGHT + "person z 5;person ann 5;person eightlet 5;pager y 0 1 z;engine e 5 any;"
                + "kind k 1 0 1:y:e;");
        Check.due("find z", Check.find(x, 0, "z"), 0);
        Check.due("find ann", Check.find(x, 0, "ann"), 1);
        Check.due("find eightlet", Check.find(x, 0, "eightlet"), 2);
        String[] strange = {"", "a", "an", "annn", "annz", " ann", "ann ", "ann\n", "ANN", "eightle", "eightlett", "aeightlet",
            "z ", "z;", "z:", "`z", "``z", "`ann", "z`", "a`nn", "\u00fa", "z\u0000", "\u0000z", "zz", "{", "y", "e",
            filled("z", 1200), "z".repeat(1200)};
        for (String name : strange) {
            Check.put(x, name);
            Check.refused("find(0) of " + name, NONE_SUCH, () -> x.find(0));
        }
        BrigadePagers one = Check.brigade(NIGHT + "person a 5;");
        for (String name : new String[] {"", "a ", " a", "aa", "`", "`a", "A", "5", "\u0001", "\u00e1", "b", "a\n", "a;"}) {
            Check.put(one, name);
            Check.refused("find(0) of " + name, NONE_SUCH, () -> one.find(0));
        }
        everyLetterCounts();
        Sentence.of(7, "`sort`: 0 for a person, 1 for a pager, 2 for an engine, 3 for a kind");
        String[] names = {"z", "y", "e", "k"};
        for (int sort = 0; sort < 4; sort++) {
            for (int other = 0; other < 4; other++) {
                Check.put(x, names[other]);
                int asked = sort;
                if (sort == other) {
                    Check.due("find(" + sort + ")", x.find(sort), 0);
                } else {
                    Check.refused("find(" + sort + ") of " + names[other], NONE_SUCH, () -> x.find(asked));
                }
            }
        }
        findEmpties();
    }

    private static void everyLetterCounts() {
        for (int at = 0; at < 8; at++) {
            BrigadePagers x = Check.brigade(NIGHT + "person mmmmmmmm 5;");
            for (char other = 'a'; other <= 'z'; other++) {
                StringBuilder name = new StringBuilder("mmmmmmmm");
                name.setCharAt(at, other);
                Check.put(x, name.toString());
                if (other == 'm') {
                    Check.due("find(0) of " + name, x.find(0), 0);
                } else {
                    Check.refused("find(0) of " + name, NONE_SUCH, () -> x.find(0));
                }
            }
        }
    }

    private static BrigadePagers holdingName(String name) {
        BrigadePagers x = Scenes.busy();
        x.truncate(0);
        Check.put(x, name);
        return x;
    }

    private static BrigadePagers emptied() {
        return holdingName("");
    }

    private static void findEmpties() {
        Sentence.of(7, "The buffer is empty afterwards in every case.");
        BrigadePagers x = holdingName("c");
        Check.due("find(0)", x.find(0), 2);
        bufferIsEmpty("after find(0)", x);
        Sentence.of(7, "Throws `IllegalArgumentException` if sort is out of range (the buffer is empty then, too)");
        for (int sort : new int[] {-1, 4, 5, Integer.MIN_VALUE, Integer.MAX_VALUE}) {
            // Also without a thing of this name, the exception that is named first.
            for (String name : new String[] {"c", "nobody", ""}) {
                findRefused(NO_ARGUMENT, sort, name);
            }
        }
        Sentence.of(7, "Throws `NoSuchElementException` if there is none with this name (likewise)");
        findRefused(NONE_SUCH, 0, "nobody");
        findRefused(NONE_SUCH, 3, "c");
        findRefused(NONE_SUCH, 0, "");
        findRefused(NONE_SUCH, 1, filled("p", 1200));
        for (int sort = 0; sort < 4; sort++) {
            int asked = sort;
            Check.refused("find(" + sort + ") when there is nothing yet", NONE_SUCH, () -> {
                BrigadePagers y = new BrigadePagers();
                Check.put(y, "a");
                y.find(asked);
            });
        }
    }

    private static void findRefused(Class<? extends RuntimeException> want, int sort, String name) {
        BrigadePagers x = holdingName(name);
        Check.refused("find(" + sort + ") of " + name, want, () -> x.find(sort));
        bufferIsEmpty("after find(" + sort + ") of " + name, x);
        Check.due("all answers after find(" + sort + ") of " + name, Snapshot.of(x), Snapshot.of(emptied()));
    }

    private static void count() {
        Sentence.of(8, "`sort`: 0 for persons, 1 for pagers, 2 for engines, 3 for kinds, 4 for calls");
        int[][] due = {{0, 0, 0, 0, 0}, {4, 2, 2, 2, 1}, {12, 6, 5, 6, 16}};
        BrigadePagers[] brigades = {new BrigadePagers(), Scenes.busy(), Scenes.fullOfCalls()};
        for (int at = 0; at < 3; at++) {
            for (int sort = 0; sort < 5; sort++) {
                Check.due("count(" + sort + ")", brigades[at].count(sort), due[at][sort]);
            }
        }
        Sentence.of(8, "Throws `IllegalArgumentException` if sort is out of range");
        for (int sort : new int[] {-1, 5, 6, Integer.MIN_VALUE, Integer.MAX_VALUE}) {
            Refusal.due("count(" + sort + ")", NO_ARGUMENT, () -> Scenes.busy(), x -> x.count(sort));
            Refusal.due("count(" + sort + ") of a new object", NO_ARGUMENT, () -> new BrigadePagers(), x -> x.count(sort));
        }
    }
}
