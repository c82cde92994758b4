/** Brigades in which something has happened, for tests that need one without caring how it came to be. */
final class Scenes {
    static final String NIGHT = "night 22 6 5 240;";
    static final String TEXT = NIGHT + "person a 4 driver;person b 6;person c 3 medic;person d 10;"
            + "trust a b 7;trust b c 2;trust a c 9;pager p 0 20 a b c a;pager q 0 24 b;"
            + "engine g 10 driver any;engine h 20 medic;kind k 30 240 1:p q:g h;kind l 30 5 2:q p:h g;";

    private Scenes() {
    }

    static BrigadePagers byDay(String text) {
        BrigadePagers x = Check.brigade(text);
        x.pass(600);
        return x;
    }

    /**
     * At 620, with "c" in the text buffer: c, who got pager p from a, is out with engine h until 673. Five changes can be
     * undone, and both slots are filled.
     */
    static BrigadePagers busy() {
        BrigadePagers x = byDay(TEXT);
        x.save(0);
        x.handOn(0, 2, 1000);
        x.call(0);
        x.pass(20);
        x.save(1);
        x.setTrust(3, 0, 5);
        Check.put(x, "c");
        return x;
    }

    /** There is room for nothing more. Pager n belongs to person 2n, who mans engine n; the last pager's goes home. */
    static BrigadePagers full() {
        return byDay(fullText());
    }

    static String fullText() {
        StringBuilder text = new StringBuilder(NIGHT);
        for (int n = 0; n < 12; n++) {
            String skill = n == 8 || n == 11 ? " medic" : "";
            text.append("person ").append(Texts.letter(n)).append(' ').append(n + 1).append(skill).append(';');
        }
        for (int n = 0; n < 6; n++) {
            text.append("pager ").append(Texts.letter(n)).append(" 0 48");
            for (int place = 0; place < 8; place++) {
                text.append(' ').append(Texts.letter((2 * n + place) % 12));
            }
            text.append(';');
        }
        text.append("engine a 0 any;engine b 0 any;engine c 0 any;engine d 0 any;engine e 0 medic;");
        text.append("kind a 1 240 5:a b c d e f:a b c d e;kind b 1 240 5:f e d c b a:e d c b a;");
        text.append("kind c 1 240 1:a:e;kind d 1 240 1:f:e;kind e 1 240 5:a:a b c d e;kind f 999 240 2:e f:a e;");
        return text.toString();
    }

    /** Sixteen calls have come to the full brigade, and five engines left at each. */
    static BrigadePagers fullOfCalls() {
        BrigadePagers x = full();
        for (int call = 0; call < 16; call++) {
            x.call(call % 2);
            x.pass(30);
        }
        return x;
    }
}
