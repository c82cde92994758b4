/** Texts with an error at a known place, texts without one, and parts of texts. */
final class Texts {
    private Texts() {
    }

    /** The sign ^ stands before the token where the error is due; it is no part of the text. */
    static void error(int code, String marked) {
        int position = marked.indexOf('^');
        String text = marked.replace("^", "");
        BrigadePagers x = new BrigadePagers();
        Check.put(x, text);
        Check.refused("load() of " + marked, IllegalArgumentException.class, () -> x.load());
        Check.due("errorCode() of " + marked, x.errorCode(), code);
        Check.due("errorPosition() of " + marked, x.errorPosition(), position);
    }

    static void right(String text, int persons) {
        BrigadePagers x = new BrigadePagers();
        Check.put(x, text);
        Check.due("load() of " + text, x.load(), persons);
        Check.due("errorCode() of " + text, x.errorCode(), 0);
        Check.due("errorPosition() of " + text, x.errorPosition(), BrigadePagers.NONE);
    }

    static char letter(int number) {
        return (char) ('a' + number);
    }

    /** The same part again and again, with the names a, b and so on in it. */
    static String many(String before, int size, String after) {
        StringBuilder text = new StringBuilder();
        for (int number = 0; number < size; number++) {
            text.append(before).append(letter(number)).append(after);
        }
        return text.toString();
    }

    /** Trusts of twelve persons, each of another two. */
    static String trusts(int size) {
        StringBuilder text = new StringBuilder();
        for (int number = 0; number < size; number++) {
            int first = number / 11;
            int second = number % 11 + (number % 11 >= first ? 1 : 0);
            text.append("trust ").append(letter(first)).append(' ').append(letter(second)).append(" 3;");
        }
        return text.toString();
    }
}
