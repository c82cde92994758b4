import java.util.NoSuchElementException;

/** A brigade with as much of everything as there is room for (promises 4, 8, 28 to 35, 42, 44 to 46, 51, 52). */
public final class FullBrigadeTest {
    private static final Class<IndexOutOfBoundsException> NO_INDEX = IndexOutOfBoundsException.class;

    public static void main(String[] args) {
        counts();
        sixteenCallsOfFiveEngines();
        sixPosts();
        helpful();
        Check.end();
    }

    private static void counts() {
        Check.part("full, counts");
        BrigadePagers x = Scenes.full();
        int[] due = {12, 6, 5, 6, 0};
        for (int sort = 0; sort < 5; sort++) {
            Check.due("count(" + sort + ")", x.count(sort), due[sort]);
        }
        for (int pager = 0; pager < 6; pager++) {
            for (int place = 0; place < 8; place++) {
                Check.due("rotation", x.rotation(pager, place), (2 * pager + place) % 12);
            }
        }
        for (int person = 0; person < 12; person++) {
            Check.due("arrival(" + person + ")", x.arrival(person), person + 1);
        }
        Check.due("excuse(11, true)", x.excuse(11, true), 1);
        Check.due("setService(4, false)", x.setService(4, false), 4);
        Check.due("setTrust(11, 10, 9)", x.setTrust(11, 10, 9), 0);
        Check.due("trust(11, 10)", x.trust(11, 10), 9);
        Check.due("dutyMinutes(10, 1440)", x.dutyMinutes(10, 1440), 1440);
        Check.due("dutyMinutes(11, 1440)", x.dutyMinutes(11, 1440), 0);
    }

    private static void sixteenCallsOfFiveEngines() {
        Check.part("full, sixteen calls");
        BrigadePagers x = Scenes.full();
        for (int call = 0; call < 16; call++) {
            Check.due("mostEngines(" + call % 2 + ")", x.mostEngines(call % 2), 5);
            Check.due("call(" + call % 2 + ")", x.call(call % 2), call);
            Check.due("pass(30)", x.pass(30), 5);
        }
        // In the order of kind b the medic's engine is looked at first, and nobody else can man it.
        int[] others = {0, 2, 4, 6};
        for (int call = 0; call < 16; call++) {
            boolean isReverse = call % 2 == 1;
            Check.due("cost(" + call + ")", x.cost(call), 2 + 4 + 6 + 8 + 10 + 22 + 5 * 50);
            Check.due("isAnswered(" + call + ")", x.isAnswered(call), true);
            Check.due("came(" + call + ")", x.came(call), 6);
            Check.due("left(" + call + ")", x.left(call), 5);
            for (int index = 0; index < 5; index++) {
                int person = isReverse ? index == 0 ? 8 : others[index - 1] : 2 * index;
                Check.due("engine", x.engine(call, index), isReverse ? 4 - index : index);
                Check.due("member", x.member(call, index, 0), person);
                Check.due("leftAt", x.leftAt(call, index), 600 + 30 * call + person + 1);
            }
            int number = call;
            Check.refused("a sixth engine", NO_INDEX, () -> x.engine(number, 5));
        }
        Check.due("totalCost()", x.totalCost(), 16 * 302);
        Check.due("pay(8)", x.pay(8), 16 * 10);
        Check.due("pay(10)", x.pay(10), 16 * 22);
        Check.due("pay(11)", x.pay(11), 0);
        Check.refusedUnchanged("a seventeenth call", IllegalStateException.class, x, () -> x.call(0));
    }

    private static void sixPosts() {
        Check.part("full, six posts");
        BrigadePagers x = Check.brigade("night 22 6 5 240;person a 9 chief;person b 8 driver;person c 7 medic;"
                + "person d 6 smoke;person e 5;person f 4 chief driver medic smoke;pager p 0 24 f;pager q 0 24 e;"
                + "pager r 0 24 d;pager s 0 24 c;pager t 0 24 b;pager u 0 24 a;engine g 1 any smoke chief medic chief driver;"
                + "kind k 5 240 1:p q r s t u:g;");
        x.pass(600);
        int[] posts = {4, 3, 0, 2, 5, 1};
        for (int post = 0; post < 6; post++) {
            Check.due("mans(0, 0, " + post + ")", x.mans(0, 0, post), posts[post]);
        }
        x.call(0);
        for (int member = 0; member < 6; member++) {
            Check.due("member(0, 0, " + member + ")", x.member(0, 0, member), member);
        }
        Check.refusedUnchanged("a seventh member", NO_INDEX, x, () -> x.member(0, 0, 6));
        x.pass(16);
        for (int person = 0; person < 6; person++) {
            for (int other = 0; other < 6; other++) {
                if (person != other) {
                    Check.due("trust(" + person + ", " + other + ")", x.trust(person, other), 1);
                }
            }
        }
    }

    private static void helpful() {
        Check.part("full, helpful hand-ons");
        BrigadePagers x = Scenes.full();
        Check.due("helpfulPager(2)", x.helpfulPager(2), 0);
        Check.due("helpfulPerson(2)", x.helpfulPerson(2), 8);
        Check.due("helpfulPager(3)", x.helpfulPager(3), 5);
        Check.due("helpfulPerson(3)", x.helpfulPerson(3), 8);
        x.excuse(8, true);
        Check.due("helpfulPager(2) without i", x.helpfulPager(2), 0);
        Check.due("helpfulPerson(2) without i", x.helpfulPerson(2), 11);
        Check.due("helpfulPager(3) without i", x.helpfulPager(3), 5);
        Check.due("helpfulPerson(3) without i", x.helpfulPerson(3), 11);
        x.excuse(11, true);
        for (int kind = 2; kind < 5; kind++) {
            int asked = kind;
            Check.refusedUnchanged("helpfulPager", NoSuchElementException.class, x, () -> x.helpfulPager(asked));
            Check.refusedUnchanged("helpfulPerson", NoSuchElementException.class, x, () -> x.helpfulPerson(asked));
            Check.refusedUnchanged("hoursUntilAnswered", NoSuchElementException.class, x, () -> x.hoursUntilAnswered(asked));
        }
        Check.refusedUnchanged("hoursUntilAnswered(6)", NO_INDEX, x, () -> x.hoursUntilAnswered(6));
    }
}
