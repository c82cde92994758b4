import java.util.ArrayList;
import java.util.List;
import java.util.Random;

/** Makes random texts: ones without an error that lead to lively runs, or ones that may have errors anywhere. */
final class RandomText {
    private static final String[] SKILLS = {"chief", "driver", "medic", "smoke"};
    private static final String[] NAMES = {
        "a", "b", "ann", "person", "trust", "pager", "engine", "kind", "night", "any", "chief", "driver", "eightlet",
        "zz", "c", "d"};

    private final Random random;
    private final boolean isRight;
    private final List<String> tokens = new ArrayList<>();

    RandomText(Random random, boolean isRight) {
        this.random = random;
        this.isRight = isRight;
    }

    String make() {
        do {
            tokens.clear();
            fill();
            if (!isRight) {
                spoil();
            }
        } while (joinedLength() > 1200);
        return joined();
    }

    private int joinedLength() {
        int length = 0;
        for (String token : tokens) {
            length += token.length() + 1;
        }
        return length + 20;
    }

    private String joined() {
        StringBuilder text = new StringBuilder();
        for (String token : tokens) {
            text.append(token);
            boolean isTight = token.equals(";") && random.nextBoolean() || !isRight && random.nextInt(900) == 0;
            text.append(isTight ? "" : random.nextInt(20) == 0 ? "\n" : " ");
        }
        if (!isRight && random.nextInt(12) == 0) {
            text.setLength(random.nextInt(text.length() + 1));
        }
        if (!isRight && random.nextInt(12) == 0 && text.length() > 0) {
            text.setCharAt(random.nextInt(text.length()), (char) random.nextInt(256));
        }
        return text.toString();
    }

    private void add(Object... some) {
        for (Object one : some) {
            tokens.add(String.valueOf(one));
        }
    }

    private int upTo(int most) {
        return random.nextInt(most + 1);
    }

    /** Sometimes one more than there is room for, if errors are wanted. */
    private int size(int least, int room) {
        if (!isRight && random.nextInt(30) == 0) {
            return room + 1;
        }
        return random.nextInt(5) == 0 ? room : least + random.nextInt(room - least + 1);
    }

    private String newName(int number) {
        return isRight ? "" + (char) ('a' + number) : number < NAMES.length ? NAMES[number] : "q" + number;
    }

    private void fill() {
        int begin = upTo(23);
        add("night", begin, (begin + 1 + upTo(22)) % 24, upTo(9) == 0 ? 30 : upTo(12), 1 + upTo(upTo(3) == 0 ? 900 : 120), ";");
        int persons = isRight ? 3 + upTo(9) : size(upTo(5) == 0 ? 0 : 2, 12);
        for (int i = 0; i < persons; i++) {
            add("person", newName(i), upTo(3) == 0 ? upTo(90) : upTo(8));
            for (String skill : SKILLS) {
                if (upTo(2) > 0) {
                    add(skill);
                }
            }
            add(";");
        }
        int trusts = persons < 2 ? 0 : size(0, Math.min(24, persons * (persons - 1) / 2));
        List<String> pairs = new ArrayList<>();
        while (pairs.size() < trusts && persons > 1) {
            int a = upTo(persons - 1);
            int b = upTo(persons - 1);
            String pair = newName(a) + " " + newName(b);
            if (a != b && !pairs.contains(pair)) {
                pairs.add(pair);
                add("trust", newName(a), newName(b), upTo(9), ";");
            } else if (trusts > persons * (persons - 1)) {
                trusts--;
            }
        }
        int pagers = persons == 0 ? 0 : isRight ? 1 + upTo(5) : size(1, 6);
        for (int i = 0; i < pagers; i++) {
            add("pager", newName(i), upTo(2) == 0 ? upTo(9) : upTo(1), upTo(2) == 0 ? 1 + upTo(167) : 1 + upTo(12));
            int places = isRight ? 1 + upTo(4) : size(1, 8);
            for (int j = 0; j < places; j++) {
                add(newName(upTo(persons - 1)));
            }
            add(";");
        }
        int engines = isRight ? 1 + upTo(4) : size(upTo(5) == 0 ? 0 : 1, 5);
        for (int i = 0; i < engines; i++) {
            add("engine", newName(i), upTo(4) == 0 ? upTo(120) : upTo(10));
            int posts = isRight ? 1 + upTo(upTo(2) == 0 ? 5 : 2) : size(1, 6);
            for (int j = 0; j < posts; j++) {
                add(upTo(2) == 0 ? "any" : SKILLS[upTo(3)]);
            }
            add(";");
        }
        int kinds = pagers == 0 || engines == 0 ? 0 : isRight ? 1 + upTo(5) : size(0, 6);
        for (int i = 0; i < kinds; i++) {
            add("kind", newName(i), 1 + upTo(upTo(3) == 0 ? 998 : 200), upTo(4) == 0 ? upTo(30) : 60 + upTo(180),
                    1 + upTo(upTo(3) == 0 ? 4 : 1), ":");
            addSome(pagers);
            add(":");
            addSome(engines);
            add(";");
        }
    }

    private void addSome(int size) {
        int first = upTo(size - 1);
        int many = upTo(3) == 0 ? upTo(size - 1) : size - 1;
        for (int i = 0; i <= many; i++) {
            add(newName((first + i) % size));
        }
    }

    /** Up to two tokens are dropped, doubled, exchanged or replaced; many texts stay right. */
    private void spoil() {
        for (int times = upTo(2) * upTo(1); times > 0; times--) {
            int at = upTo(tokens.size() - 1);
            switch (upTo(6)) {
                case 0:
                    tokens.remove(at);
                    break;
                case 1:
                    tokens.add(at, tokens.get(at));
                    break;
                case 2:
                    tokens.set(at, tokens.get(upTo(tokens.size() - 1)));
                    break;
                case 3:
                    String[] odd = {"000007", "00007", "24", "121", "1000", "999", "169", "10", "0", "241", "6", "31",
                        "ninelette", "Upper", "-", ";", ":", "any", "chief", "unknown", "person", "kind", "\t", "\u00e9"};
                    tokens.set(at, odd[upTo(odd.length - 1)]);
                    break;
                case 4:
                    tokens.set(at, NAMES[upTo(NAMES.length - 1)]);
                    break;
                case 5:
                    // A name twice in a row: one that is known, so it may be the first and second one of a trust.
                    tokens.set(at, tokens.get(Math.max(0, at - 1)));
                    break;
                default:
                    if (tokens.get(at).charAt(0) <= '9') {
                        tokens.set(at, "00" + tokens.get(at));
                    }
                    break;
            }
            if (tokens.isEmpty()) {
                return;
            }
        }
    }
}
