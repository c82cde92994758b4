import java.nio.charset.StandardCharsets;

/** What the tests share: a count of wrong answers, and ways to give a text to a brigade. */
final class Check {
    interface Answer {
        long get();
    }

    interface Deed {
        void run();
    }

    interface OfOne {
        long of(int number);
    }

    interface OfTwo {
        long of(int first, int second);
    }

    private static int wrong = 0;
    private static int made = 0;
    private static String part = "";

    private Check() {
    }

    static void part(String name) {
        part = name;
    }

    static void due(String what, long got, long want) {
        made++;
        if (got != want) {
            tell(what + " answered " + got + ", due is " + want);
        }
    }

    static void due(String what, boolean got, boolean want) {
        due(what, got ? 1 : 0, want ? 1 : 0);
    }

    static void due(String what, Object got, Object want) {
        made++;
        if (!want.equals(got)) {
            tell(what + " answered " + got + ", due is " + want);
        }
    }

    /** The very class is due, no class below it. */
    static void refused(String what, Class<? extends RuntimeException> want, Deed deed) {
        made++;
        try {
            deed.run();
        } catch (RuntimeException thrown) {
            if (thrown.getClass() != want) {
                tell(what + " threw " + thrown + ", due is " + want.getName());
            }
            return;
        }
        tell(what + " threw nothing, due is " + want.getName());
    }

    /** The same, and nothing that can be asked about the brigade is changed by it. */
    static void refusedUnchanged(String what, Class<? extends RuntimeException> want, BrigadePagers x, Deed deed) {
        String before = Snapshot.of(x);
        refused(what, want, deed);
        due(what + " leaves all as it was", Snapshot.of(x), before);
    }

    static void tell(String line) {
        wrong++;
        if (wrong <= 50) {
            System.out.println(part + ": " + line);
        }
    }

    static void end() {
        System.out.println(wrong == 0 ? made + " answers are as due" : wrong + " of " + made + " answers are not as due");
        if (wrong != 0) {
            System.exit(1);
        }
    }

    /** Fills the text buffer, which must be empty, with a text of at most 1200 bytes of ISO 8859-1. */
    static void put(BrigadePagers x, String text) {
        byte[] bytes = text.getBytes(StandardCharsets.ISO_8859_1);
        for (int at = 0; at < bytes.length; at += 20) {
            x.append(word(bytes, at), word(bytes, at + 4), word(bytes, at + 8), word(bytes, at + 12), word(bytes, at + 16));
        }
        x.truncate(bytes.length);
    }

    private static int word(byte[] bytes, int from) {
        int word = 0;
        for (int at = from; at < from + 4; at++) {
            word = word << 8 | (at < bytes.length ? bytes[at] & 255 : ' ');
        }
        return word;
    }

    static BrigadePagers brigade(String text) {
        BrigadePagers x = new BrigadePagers();
        put(x, text);
        x.load();
        return x;
    }

    static void passTo(BrigadePagers x, int time) {
        while (x.time() < time) {
            x.pass(Math.min(1440, time - x.time()));
        }
    }

    static int find(BrigadePagers x, int sort, String name) {
        put(x, name);
        return x.find(sort);
    }
}
