import java.util.NoSuchElementException;

/** Promises 1 to 8: a new object, the text buffer, load() with its errors, find() and count(). */
public final class TextPromisesTest {
    private static final String NIGHT = "night 22 6 5 240;";
    private static final String AB = NIGHT + "person a 5;person b 5;";
    private static final String ABP = AB + "pager p 0 1 a;";
    private static final String ABPE = ABP + "engine e 5 any;";

    public static void main(String[] args) {
        newObject();
        append();
        truncate();
        load();
        loadRefused();
        nightErrors();
        personErrors();
        trustErrors();
        pagerErrors();
        engineErrors();
        kindErrors();
        roomErrors();
        rightTexts();
        loadAgain();
        likeNames();
        errorsStayUntilLoad();
        find();
        count();
        Check.end();
    }

    private static void newObject() {
        Check.part("promise 1");
        BrigadePagers x = new BrigadePagers();
        for (int sort = 0; sort < 5; sort++) {
            Check.due("count", x.count(sort), 0);
        }
        Check.due("time", x.time(), 0);
        Check.due("errorCode", x.errorCode(), 0);
        Check.due("errorPosition", x.errorPosition(), BrigadePagers.NONE);
        Check.due("totalCost", x.totalCost(), 0);
        Check.due("a day's night", x.nightMinutes(0, 1440), 480);
        Check.due("the night's end", x.nightMinutes(359, 361), 1);
        Check.due("the night's begin", x.nightMinutes(1319, 1321), 1);
        Check.refused("truncate(1) of the empty buffer", IndexOutOfBoundsException.class, () -> x.truncate(1));
        Check.refused("undo()", IllegalStateException.class, () -> x.undo());
        Check.refused("restore(0)", NoSuchElementException.class, () -> x.restore(0));
        Check.refused("restore(1)", NoSuchElementException.class, () -> x.restore(1));
        Check.refused("arrival(0)", IndexOutOfBoundsException.class, () -> x.arrival(0));
        Check.refused("call(0)", IndexOutOfBoundsException.class, () -> x.call(0));
        Check.due("pass", x.pass(10), 0);
        Check.due("undo", x.undo(), 0);
        x.save(1);
        x.restore(1);
        Check.due("time", x.time(), 0);
        BrigadePagers loaded = Check.brigade(NIGHT);
        Check.due("all questions", Snapshot.of(new BrigadePagers()), Snapshot.of(loaded));
    }

    private static void append() {
        Check.part("promise 2");
        BrigadePagers x = new BrigadePagers();
        for (int length = 20; length <= 1200; length += 20) {
            Check.due("append", x.append(0x20202020, 0, -1, 0x61616161, 1), length);
        }
        Check.refused("append to 1200 bytes", IllegalStateException.class, () -> x.append(0, 0, 0, 0, 0));
        Check.due("its length", x.truncate(1200), 1200);
        x.truncate(1181);
        Check.refused("append to 1181 bytes", IllegalStateException.class, () -> x.append(0, 0, 0, 0, 0));
        Check.due("its length", x.truncate(1181), 1181);
        x.truncate(1180);
        Check.due("append to 1180 bytes", x.append(0, 0, 0, 0, 0), 1200);

        BrigadePagers y = new BrigadePagers();
        y.append(0x6e696768, 0x74203232, 0x20362035, 0x20323430, 0x3b706572);
        y.append(0x736f6e0a, 0x61203520, 0x63686965, 0x66206472, 0x69766572);
        y.append(0x203b2020, 0x20202020, 0x20202020, 0x20202020, 0x20202020);
        Check.due("load of a text in words", y.load(), 1);

        for (int at = 0; at < 20; at++) {
            int[] words = {0x20202020, 0x20202020, 0x20202020, 0x20202020, 0x20202020};
            words[at / 4] ^= 0xe0 << 24 - at % 4 * 8;
            BrigadePagers z = new BrigadePagers();
            Check.put(z, "night 22 6 5 240;");
            z.append(words[0], words[1], words[2], words[3], words[4]);
            Check.refused("load with a strange byte", IllegalArgumentException.class, () -> z.load());
            Check.due("its position", z.errorPosition(), 17 + at);
        }
    }

    private static void truncate() {
        Check.part("promise 3");
        BrigadePagers x = new BrigadePagers();
        Check.due("truncate(0) of nothing", x.truncate(0), 0);
        x.append(0, 0, 0, 0, 0);
        Check.refused("truncate(21)", IndexOutOfBoundsException.class, () -> x.truncate(21));
        Check.refused("truncate(-1)", IndexOutOfBoundsException.class, () -> x.truncate(-1));
        Check.refused("truncate(least)", IndexOutOfBoundsException.class, () -> x.truncate(Integer.MIN_VALUE));
        Check.refused("truncate(greatest)", IndexOutOfBoundsException.class, () -> x.truncate(Integer.MAX_VALUE));
        Check.due("truncate(20)", x.truncate(20), 20);
        Check.due("truncate(7)", x.truncate(7), 7);
        Check.refused("truncate(8)", IndexOutOfBoundsException.class, () -> x.truncate(8));
        Check.due("append", x.append(0, 0, 0, 0, 0), 27);

        BrigadePagers y = Check.brigade(AB);
        Check.put(y, "bx");
        y.truncate(1);
        Check.due("find of what is left", y.find(0), 1);
    }

    /** A brigade in which something of everything has happened. */
    private static BrigadePagers lively() {
        BrigadePagers x = Check.brigade(NIGHT + "person a 4 driver;person b 5;person c 6;trust a b 7;trust c b 2;"
                + "pager p 0 1 a b a;pager q 0 4 c;engine e 5 any;kind k 50 60 1:p:e;kind l 50 60 1:q:e;");
        x.handOn(1, 1, 200);
        x.save(0);
        x.call(0);
        x.setTrust(1, 2, 3);
        x.excuse(1, true);
        x.swapPlaces(0, 1, 2);
        x.pass(100);
        x.setService(0, false);
        return x;
    }

    private static void load() {
        Check.part("promise 4");
        BrigadePagers x = lively();
        String text = NIGHT + "person a 4 driver;person b 5;trust b a 7;pager p 0 1 b;engine e 5 any;kind k 50 60 1:p:e;";
        Check.put(x, text);
        Check.due("load()", x.load(), 2);
        Check.due("all questions", Snapshot.of(x), Snapshot.of(Check.brigade(text)));
        Check.refused("truncate(1) after load()", IndexOutOfBoundsException.class, () -> x.truncate(1));
        Check.refused("undo() after load()", IllegalStateException.class, () -> x.undo());
        Check.refused("restore(0) after load()", NoSuchElementException.class, () -> x.restore(0));
        Check.put(x, NIGHT);
        Check.due("load() of nobody", x.load(), 0);
        Check.due("all questions", Snapshot.of(x), Snapshot.of(new BrigadePagers()));
    }

    private static String withoutError(BrigadePagers x) {
        String all = Snapshot.of(x);
        return all.substring(all.indexOf('\n'));
    }

    private static void loadRefused() {
        Check.part("promise 4, refused");
        BrigadePagers x = lively();
        String before = withoutError(x);
        Check.put(x, "night 1 5 30 999;person z 9;person y 8;trust y z 9;pager r 9 9 y z;engine f 9 medic;"
                + "kind m 9 9 5:r:f;kind n 9 9 5:r:g;");
        Check.refused("load()", IllegalArgumentException.class, () -> x.load());
        Check.due("errorCode()", x.errorCode(), 4);
        Check.due("all but the error", withoutError(x), before);
        Check.due("the night", x.nightMinutes(0, 1440), 480);
        Check.refused("truncate(1) after it", IndexOutOfBoundsException.class, () -> x.truncate(1));
        Check.due("find(0) after it", Check.find(x, 0, "c"), 2);
        Check.due("find(1) after it", Check.find(x, 1, "q"), 1);
        Check.due("undo() after it", x.undo(), 6);
        x.restore(0);
        Check.due("time() after restore(0)", x.time(), 0);
        Check.refused("load() of nothing", IllegalArgumentException.class, () -> x.load());
    }

    private static void nightErrors() {
        Check.part("promises 4 to 6, night");
        Texts.error(1, "^");
        Texts.error(1, "   \n ^");
        Texts.error(1, "^nights 22 6 5 240;");
        Texts.error(1, "^nigh 22 6 5 240;");
        Texts.error(1, "^light 22 6 5 240;");
        Texts.error(1, "^nighs 22 6 5 240;");
        Texts.error(1, "^person a 5;");
        Texts.error(1, "^22 6 5 240;");
        Texts.error(1, "night^");
        Texts.error(1, "night  ^");
        Texts.error(1, "night ^;");
        Texts.error(1, "night ^one 6 5 240;");
        Texts.error(1, "night ^000022 6 5 240;");
        Texts.error(1, "night 22 ^123456 5 240;");
        Texts.error(2, "night ^24 6 5 240;");
        Texts.error(2, "night ^99999 6 5 240;");
        Texts.error(2, "night 22 ^24 5 240;");
        Texts.error(2, "night 22 ^22 5 240;");
        Texts.error(2, "night 22 ^022 5 240;");
        Texts.error(2, "night 22 6 ^31 240;");
        Texts.error(2, "night 22 6 5 ^0;");
        Texts.error(2, "night 22 6 5 ^1000;");
        Texts.error(1, "night 22 6 5 ^;");
        Texts.error(1, "night 22 6 5 240^");
        Texts.error(1, "night 22 6 5 240 ^240;");
        Texts.error(1, "night 22 6 5 240^:");
        Texts.error(1, NIGHT + "^;");
        Texts.error(1, NIGHT + "^night 22 6 5 240;");
        Texts.error(1, NIGHT + "^Person a 5;");
        Texts.error(1, NIGHT + "^persons a 5;");
        Texts.error(1, NIGHT + "^7");
        Texts.error(1, NIGHT + "^\tperson a 5;");
        Texts.error(1, NIGHT + "^\rperson a 5;");
        Texts.error(1, NIGHT + "^\u0000person a 5;");
        Texts.error(1, NIGHT + "^\u00a0person a 5;");
        Texts.error(1, "night ^\u00b2 6 5 240;");
        Texts.error(1, "night 22^-6 5 240;");
        Texts.error(1, "^{night 22 6 5 240;");
        Texts.error(1, "^`night 22 6 5 240;");
        Texts.error(1, "night ^/2 6 5 240;");
    }

    private static void personErrors() {
        Check.part("promises 4 to 6, persons");
        Texts.error(1, NIGHT + "person^");
        Texts.error(1, NIGHT + "person ^5 a;");
        Texts.error(1, NIGHT + "person ^;");
        Texts.error(1, NIGHT + "person ^ninelette 5;");
        Texts.error(1, NIGHT + "person a ^b 5;");
        Texts.error(1, NIGHT + "person a ^;");
        Texts.error(2, NIGHT + "person a ^121;");
        Texts.error(1, NIGHT + "person a ^000121;");
        Texts.error(1, NIGHT + "person a 5 ^any;");
        Texts.error(1, NIGHT + "person a 5 ^cook;");
        Texts.error(1, NIGHT + "person a 5 ^chiefs;");
        Texts.error(1, NIGHT + "person a 5 ^thief;");
        Texts.error(1, NIGHT + "^verson a 5;");
        Texts.error(1, NIGHT + "person a 5 chief ^6;");
        Texts.error(1, NIGHT + "person a 5 chief^");
        Texts.error(1, NIGHT + "person a 5 ^:");
        Texts.error(3, NIGHT + "person a 5 chief ^chief;");
        Texts.error(3, NIGHT + "person a 5 driver chief ^driver;");
        Texts.error(3, NIGHT + "person a 5 medic smoke ^medic;");
        Texts.error(3, NIGHT + "person a 5 smoke driver ^smoke medic;");
        Texts.error(3, NIGHT + "person a 5 chief driver medic smoke ^medic;");
        Texts.error(3, NIGHT + "person a 5;person ^a 121;");
        Texts.error(3, AB + "person ^b 5;");
        Texts.error(3, NIGHT + "person eightlet 5;person ^eightlet 5;");
        Texts.right(NIGHT + "person a 5;person aa 5;person ab 5;person b 5;", 4);
    }

    private static void trustErrors() {
        Check.part("promises 4 to 6, trusts");
        Texts.error(4, AB + "trust ^x a 3;");
        Texts.error(4, AB + "trust a ^x 3;");
        Texts.error(4, AB + "trust ^x x 3;");
        Texts.error(6, AB + "trust a ^a 3;");
        Texts.error(6, AB + "trust b ^b 10;");
        Texts.error(3, AB + "trust a b 3;trust a ^b 3;");
        Texts.error(3, AB + "trust a b 0;trust a ^b 1;");
        Texts.error(2, AB + "trust a b ^10;");
        Texts.error(1, AB + "trust a ^3;");
        Texts.error(1, AB + "trust ^;");
        Texts.error(1, AB + "trust a b ^c;");
        Texts.error(1, AB + "trust a b 3 ^4;");
        Texts.error(1, AB + "trust a ^ninelette 3;");
        Texts.error(1, AB + "trust ^ninelette a 3;");
        Texts.error(1, AB + "trust a b 3^");
        Texts.error(1, AB + "trust a b 3;^person c 5;");
        Texts.error(4, NIGHT + "trust ^a b 3;");
        Texts.right(AB + "trust a b 3;trust b a 3;", 2);
    }

    private static void pagerErrors() {
        Check.part("promises 4 to 6, pagers");
        Texts.error(2, AB + "pager p ^10 1 a;");
        Texts.error(2, AB + "pager p 0 ^0 a;");
        Texts.error(2, AB + "pager p 0 ^169 a;");
        Texts.error(1, AB + "pager p 0 1 ^;");
        Texts.error(1, AB + "pager p 0 ^a;");
        Texts.error(1, AB + "pager ^0 1 a;");
        Texts.error(1, AB + "pager p 0 1 a ^5;");
        Texts.error(1, AB + "pager p 0 1 a^:");
        Texts.error(1, AB + "pager p 0 1 a b^");
        Texts.error(1, AB + "pager ^ninelette 0 1 a;");
        Texts.error(1, AB + "pager p 0 1 ^ninelette;");
        Texts.error(4, AB + "pager p 0 1 ^x;");
        Texts.error(4, AB + "pager p 0 1 a b ^c;");
        Texts.error(4, ABP + "pager q 0 1 ^p;");
        Texts.error(3, ABP + "pager ^p 10 1 a;");
        Texts.error(5, AB + "pager p 0 1 a b a b a b a b ^a;");
        Texts.error(5, AB + "pager p 0 1 a a a a a a a a ^a x;");
        Texts.error(4, AB + "pager p 0 1 a b a b a b a b ^x;");
        Texts.error(1, AB + "pager p 0 1 a b a b a b a b ^ninelette;");
        Texts.error(1, AB + "pager p 0 1 a b a b a b a b ^7;");
        Texts.error(1, ABP + "^trust a b 3;");
        Texts.error(1, ABP + "^person c 3;");
        Texts.right(AB + "pager a 0 1 a b a b a b a b;pager b 9 168 b;", 2);
    }

    private static void engineErrors() {
        Check.part("promises 4 to 6, engines");
        Texts.error(2, NIGHT + "engine e ^121 any;");
        Texts.error(1, NIGHT + "engine e 5 ^;");
        Texts.error(1, NIGHT + "engine e 5^");
        Texts.error(1, NIGHT + "engine e ^any;");
        Texts.error(1, NIGHT + "engine ^5 any;");
        Texts.error(1, NIGHT + "engine ^ninelette 5 any;");
        Texts.error(1, NIGHT + "engine e 5 ^cook;");
        Texts.error(1, NIGHT + "engine e 5 any ^cook;");
        Texts.error(1, NIGHT + "engine e 5 any ^5;");
        Texts.error(1, NIGHT + "engine e 5 any^:");
        Texts.error(5, NIGHT + "engine e 5 any chief any driver any smoke ^medic;");
        Texts.error(1, NIGHT + "engine e 5 any chief any driver any smoke ^cook;");
        Texts.error(1, NIGHT + "engine e 5 any chief any driver any smoke ^7;");
        Texts.error(3, NIGHT + "engine e 5 any;engine ^e 121 any;");
        Texts.error(1, ABPE + "^pager q 0 1 a;");
        Texts.error(1, ABPE + "^trust a b 3;");
        Texts.error(1, ABPE + "^person c 3;");
        Texts.right(NIGHT + "engine e 0 chief chief chief driver medic smoke;engine f 120 any;", 0);
    }

    private static void kindErrors() {
        Check.part("promises 4 to 6, kinds");
        Texts.error(1, ABPE + "kind ^7 1 0 1:p:e;");
        Texts.error(1, ABPE + "kind ^ninelette 1 0 1:p:e;");
        Texts.error(2, ABPE + "kind k ^0 0 1:p:e;");
        Texts.error(2, ABPE + "kind k ^1000 0 1:p:e;");
        Texts.error(2, ABPE + "kind k 1 ^241 1:p:e;");
        Texts.error(2, ABPE + "kind k 1 0 ^0:p:e;");
        Texts.error(2, ABPE + "kind k 1 0 ^6:p:e;");
        Texts.error(1, ABPE + "kind k 1 0 1 ^p:e;");
        Texts.error(1, ABPE + "kind k 1 0 1 ^;");
        Texts.error(1, ABPE + "kind k 1 0 1:^:e;");
        Texts.error(1, ABPE + "kind k 1 0 1:p^;");
        Texts.error(1, ABPE + "kind k 1 0 1:p ^7:e;");
        Texts.error(1, ABPE + "kind k 1 0 1:p:^;");
        Texts.error(1, ABPE + "kind k 1 0 1:p:e^:");
        Texts.error(1, ABPE + "kind k 1 0 1:p:e^");
        Texts.error(1, ABPE + "kind k 1 0 1:^ninelette:e;");
        Texts.error(1, ABPE + "kind k 1 0 1:p:e ^ninelette;");
        Texts.error(4, ABPE + "kind k 1 0 1:^a:e;");
        Texts.error(4, ABPE + "kind k 1 0 1:p ^e:e;");
        Texts.error(4, ABPE + "kind k 1 0 1:p:^p;");
        Texts.error(4, ABPE + "kind k 1 0 1:p:e ^a;");
        Texts.error(3, ABPE + "kind k 1 0 1:p ^p:e;");
        Texts.error(3, ABPE + "kind k 1 0 1:p:e ^e;");
        Texts.error(3, ABPE + "kind k 1 0 1:p:e;kind ^k 0 0 1:p:e;");
        Texts.error(1, ABPE + "kind k 1 0 1:p:e;^engine f 5 any;");
        Texts.error(1, ABPE + "kind k 1 0 1:p:e;^pager q 0 1 a;");
        Texts.error(1, ABPE + "kind k 1 0 1:p:e;^night 22 6 5 240;");
        Texts.right(ABPE + "kind k 1 0 1:p:e;kind l 999 240 5:p:e;", 2);
    }

    private static void roomErrors() {
        Check.part("promises 4 to 6, no room");
        String twelve = NIGHT + Texts.many("person ", 12, " 5;");
        Texts.right(twelve, 12);
        Texts.error(5, twelve + "^person m 5;");
        Texts.error(5, twelve + "^person");
        Texts.error(5, twelve + "^person ninelette");
        Texts.error(5, twelve + "^person a 5;");
        Texts.right(twelve + Texts.trusts(24), 12);
        Texts.error(5, twelve + Texts.trusts(24) + "^trust c d 3;");
        Texts.error(5, twelve + Texts.trusts(24) + "^trust x;");
        Texts.error(1, twelve + "trust a b 3;^person m 5;");
        String six = AB + Texts.many("pager ", 6, " 0 1 a b;");
        Texts.right(six, 2);
        Texts.error(5, six + "^pager g 0 1 a;");
        Texts.error(1, six + "engine e 5 any;^pager g 0 1 a;");
        String five = NIGHT + Texts.many("engine ", 5, " 5 any;");
        Texts.right(five, 0);
        Texts.error(5, five + "^engine f 5 any;");
        String kinds = ABPE + Texts.many("kind ", 6, " 1 0 1:p:e;");
        Texts.right(kinds, 2);
        Texts.error(5, kinds + "^kind g 1 0 1:p:e;");
        Texts.error(1, kinds + "^engine g 1 any;");
        StringBuilder full = new StringBuilder(NIGHT);
        while (full.length() < 1199) {
            full.append(' ');
        }
        Texts.right(full + "\n", 0);
        Texts.error(1, full + "^a");
        Texts.error(1, full.substring(0, 1194) + "person^");
    }

    private static void rightTexts() {
        Check.part("promise 4, right texts");
        Texts.right("\n night\n00022 6\n\n5 240 \n;\n", 0);
        Texts.right("night22 6 5 00240;person a5chief driver;", 1);
        Texts.right("night 0 23 0 1;", 0);
        Texts.right("night 23 0 30 999;", 0);
        Texts.right(NIGHT + "person person 0;person trust 120 smoke medic driver chief;person eightlet 1;person chief 2 chief;"
                + "trust person trust 0;trust trust person 9;pager pager 0 1 person trust;engine engine 0 any;"
                + "kind kind 1 0 1:pager:engine;kind night 1 0 1:pager:engine;", 4);
        String all = NIGHT + Texts.many("person ", 12, " 5;") + Texts.many("pager ", 6, " 0 1 a l;") + Texts.many("engine ", 5, " 5 any;")
                + "kind k 1 0 5:f e d c b a:e d c b a;";
        Texts.right(all, 12);
        BrigadePagers x = Check.brigade(all);
        Check.due("the fourth person's name", Check.find(x, 0, "d"), 3);
        Check.due("rotation(5, 1)", x.rotation(5, 1), 11);
        Check.refused("rotation(5, 2)", IndexOutOfBoundsException.class, () -> x.rotation(5, 2));
    }

    private static String allOf(String skill, String pagers, String posts) {
        return NIGHT + Texts.many("person ", 12, " 5" + skill + ";") + Texts.trusts(24) + Texts.many("pager ", 6, " 0 9" + pagers + ";")
                + Texts.many("engine ", 5, " 5" + posts + ";") + "kind k 9 99 5:a b c d e f:e d c b a;"
                + "kind l 9 99 1:a:a;kind m 9 99 2:f e:a;kind n 9 99 1:d b:b;kind o 9 99 1:d b:b;kind p 9 99 1:d b:b;";
    }

    /** What was loaded before, and the load before that one, leaves no trace. */
    private static void loadAgain() {
        Check.part("promise 4, again and again");
        String[] texts = {allOf(" medic smoke", " a b c d e f g", " any smoke"), NIGHT, allOf("", " c a", " any"),
            allOf(" chief", " d c b a", " chief any"), AB, allOf("", " l k j i h", " any medic"), ABPE};
        BrigadePagers x = new BrigadePagers();
        for (int times = 0; times < 2 * texts.length; times++) {
            String text = texts[times * 3 % texts.length];
            Check.put(x, text);
            x.load();
            BrigadePagers fresh = Check.brigade(text);
            Check.due("all questions", Snapshot.of(x), Snapshot.of(fresh));
            stir(x);
            stir(fresh);
            Check.due("all questions after some changes", Snapshot.of(x), Snapshot.of(fresh));
        }
    }

    private static void stir(BrigadePagers x) {
        if (x.count(1) == 6) {
            x.handOn(0, 10, 500);
            x.handOn(5, 5, 540);
            x.handOn(5, 6, 540);
            x.excuse(6, true);
            x.call(0);
            x.call(2);
            if (x.returnsAt(0) == BrigadePagers.NONE) {
                x.setService(0, false);
            }
            x.pass(20);
        }
    }

    /** Names that are alike but for one letter are different ones. */
    private static void likeNames() {
        Check.part("promises 4 and 7, names that are alike");
        String[] names = {"baaaaaaa", "abaaaaaa", "aabaaaaa", "aaabaaaa", "aaaabaaa", "aaaaabaa", "aaaaaaba", "aaaaaaab",
            "aaaaaaaa", "aaaaaaa", "zaaaaaaa", "aaaaaaaz"};
        StringBuilder text = new StringBuilder(NIGHT);
        for (String name : names) {
            text.append("person ").append(name).append(" 5;");
        }
        BrigadePagers x = Check.brigade(text.toString());
        for (int number = 0; number < names.length; number++) {
            Check.due("find(0) of " + names[number], Check.find(x, 0, names[number]), number);
        }
        notFound(x, NoSuchElementException.class, 0, "caaaaaaa");
        notFound(x, NoSuchElementException.class, 0, "aaaaaaac");
        notFound(x, NoSuchElementException.class, 0, "aaaaaa");
    }

    private static void errorsStayUntilLoad() {
        Check.part("promises 5 and 6");
        BrigadePagers x = Check.brigade(AB);
        Check.put(x, "night 22 22 5 240;");
        Check.refused("load()", IllegalArgumentException.class, () -> x.load());
        Check.put(x, "a");
        x.find(0);
        x.pass(5);
        x.save(0);
        x.restore(0);
        x.pass(5);
        x.undo();
        Check.due("errorCode()", x.errorCode(), 2);
        Check.due("errorPosition()", x.errorPosition(), 9);
        Check.put(x, NIGHT);
        x.load();
        Check.due("errorCode()", x.errorCode(), 0);
        Check.due("errorPosition()", x.errorPosition(), BrigadePagers.NONE);
        Check.refused("load() of nothing", IllegalArgumentException.class, () -> x.load());
        Check.due("errorCode()", x.errorCode(), 1);
        Check.due("errorPosition()", x.errorPosition(), 0);
    }

    private static void notFound(BrigadePagers x, Class<? extends RuntimeException> want, int sort, String name) {
        Check.put(x, name);
        Check.refusedUnchanged("find(" + sort + ") of " + name, want, x, () -> x.find(sort));
        Check.refused("truncate(1) after it", IndexOutOfBoundsException.class, () -> x.truncate(1));
    }

    private static void find() {
        Check.part("promise 7");
        BrigadePagers x = Check.brigade(NIGHT + "person ann 5;person b 5;person eightlet 5;pager q 0 1 b;pager b 0 1 b;"
                + "engine r 5 any;engine q 5 any;engine b 5 any;kind s 1 0 1:b:b;kind q 1 0 1:b:b;kind t 1 0 1:b:b;"
                + "kind b 1 0 1:b:b;");
        Check.due("person b", Check.find(x, 0, "b"), 1);
        Check.due("pager b", Check.find(x, 1, "b"), 1);
        Check.due("engine b", Check.find(x, 2, "b"), 2);
        Check.due("kind b", Check.find(x, 3, "b"), 3);
        Check.due("pager q", Check.find(x, 1, "q"), 0);
        Check.due("engine q", Check.find(x, 2, "q"), 1);
        Check.due("kind q", Check.find(x, 3, "q"), 1);
        Check.due("person eightlet", Check.find(x, 0, "eightlet"), 2);
        Check.refused("truncate(1) after it", IndexOutOfBoundsException.class, () -> x.truncate(1));
        String[] strange = {"", " ", "an", "annn", "ann ", " ann", "Ann", "ann;", "eightlets", "eightlet ", "aeightlet",
            "a\u00eef", "`ann", "``ann", "ann`", "`", "a`nn", "{nn", "ann\n", "5", "\u0000", "\u0000ann", "ann ann"};
        for (String name : strange) {
            notFound(x, NoSuchElementException.class, 0, name);
        }
        notFound(x, NoSuchElementException.class, 1, "ann");
        notFound(x, NoSuchElementException.class, 0, "q");
        notFound(x, NoSuchElementException.class, 3, "r");
        for (int sort : new int[] {-1, 4, Integer.MIN_VALUE, Integer.MAX_VALUE}) {
            notFound(x, IllegalArgumentException.class, sort, "b");
            notFound(x, IllegalArgumentException.class, sort, "nobody");
            notFound(x, IllegalArgumentException.class, sort, "");
        }
    }

    private static void count() {
        Check.part("promise 8");
        BrigadePagers x = Check.brigade(NIGHT + "person a 5;person b 5;person c 5;person d 5;pager q 0 1 b;"
                + "engine r 5 any;engine q 5 any;kind s 1 0 1:q:q;kind q 1 0 1:q:q;kind t 1 0 1:q:q;");
        Check.due("persons", x.count(0), 4);
        Check.due("pagers", x.count(1), 1);
        Check.due("engines", x.count(2), 2);
        Check.due("kinds", x.count(3), 3);
        Check.due("calls", x.count(4), 0);
        x.call(0);
        x.call(1);
        Check.due("calls", x.count(4), 2);
        x.undo();
        Check.due("calls", x.count(4), 1);
        for (int sort : new int[] {-1, 5, Integer.MIN_VALUE, Integer.MAX_VALUE}) {
            Check.refusedUnchanged("count(" + sort + ")", IllegalArgumentException.class, x, () -> x.count(sort));
        }
    }
}
