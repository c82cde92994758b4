/** All that the questions of a brigade answer, as one text; only the text buffer cannot be asked about. */
final class Snapshot {
    private Snapshot() {
    }

    private static void add(StringBuilder to, Check.Answer answer) {
        try {
            to.append(answer.get());
        } catch (RuntimeException thrown) {
            to.append(thrown.getClass().getSimpleName());
        }
        to.append(' ');
    }

    static String of(BrigadePagers x) {
        StringBuilder to = new StringBuilder();
        to.append("error ").append(x.errorCode()).append(' ').append(x.errorPosition()).append('\n');
        to.append("time ").append(x.time()).append(" cost ").append(x.totalCost()).append('\n');
        for (int sort = 0; sort < 5; sort++) {
            to.append(x.count(sort)).append(' ');
        }
        addPersons(x, to);
        addPagers(x, to);
        addCalls(x, to);
        addKinds(x, to);
        return to.toString();
    }

    private static void addPersons(BrigadePagers x, StringBuilder to) {
        for (int i = 0; i < x.count(0); i++) {
            int person = i;
            to.append("\nperson ").append(person).append(' ');
            add(to, () -> x.outUntil(person));
            add(to, () -> x.lostSleep(person));
            add(to, () -> x.lostSleepAfter(person, 1440));
            add(to, () -> x.restedAt(person));
            add(to, () -> x.arrival(person));
            add(to, () -> x.pay(person));
            add(to, () -> x.dutyMinutes(person, 1440));
            for (int j = 0; j < x.count(0); j++) {
                int other = j;
                add(to, () -> x.trust(person, other));
                add(to, () -> x.trustPath(person, other));
            }
        }
    }

    private static void addPagers(BrigadePagers x, StringBuilder to) {
        for (int i = 0; i < x.count(1); i++) {
            int pager = i;
            to.append("\npager ").append(pager).append(' ');
            add(to, () -> x.handOns(pager));
            add(to, () -> x.holdingEnd(pager));
            add(to, () -> x.holderAt(pager, x.time()));
            for (int j = 0; j < 8; j++) {
                int index = j;
                add(to, () -> x.chain(pager, index));
                add(to, () -> x.rotation(pager, index));
            }
            for (int j = 0; j < x.count(0); j++) {
                int person = j;
                add(to, () -> x.whyNotHandOn(pager, person, x.holdingEnd(pager)));
                add(to, () -> x.steps(pager, person));
            }
        }
    }

    private static void addCalls(BrigadePagers x, StringBuilder to) {
        for (int i = 0; i < x.count(2); i++) {
            int engine = i;
            to.append("\nengine ").append(engine).append(' ');
            add(to, () -> x.returnsAt(engine));
        }
        for (int i = 0; i < x.count(4); i++) {
            int call = i;
            to.append("\ncall ").append(call).append(' ');
            add(to, () -> x.cost(call));
            add(to, () -> x.isAnswered(call) ? 1 : 0);
            add(to, () -> x.came(call));
            add(to, () -> x.left(call));
            for (int j = 0; j < x.left(call); j++) {
                int index = j;
                add(to, () -> x.engine(call, index));
                add(to, () -> x.leftAt(call, index));
                for (int k = 0; k < 6; k++) {
                    int member = k;
                    add(to, () -> x.member(call, index, member));
                }
            }
        }
    }

    private static void addKinds(BrigadePagers x, StringBuilder to) {
        for (int i = 0; i < x.count(3); i++) {
            int kind = i;
            to.append("\nkind ").append(kind).append(' ');
            add(to, () -> x.wouldAnswer(kind) ? 1 : 0);
            add(to, () -> x.mostEngines(kind));
            add(to, () -> x.hoursUntilAnswered(kind));
            add(to, () -> x.helpfulPager(kind));
            add(to, () -> x.helpfulPerson(kind));
            for (int j = 0; j < x.count(0); j++) {
                int person = j;
                add(to, () -> x.whyAbsent(kind, person));
            }
            for (int j = 0; j < 5; j++) {
                int index = j;
                add(to, () -> x.whyStays(kind, index));
                add(to, () -> x.departure(kind, index));
                add(to, () -> x.manned(kind, index));
                for (int k = 0; k < 6; k++) {
                    int post = k;
                    add(to, () -> x.mans(kind, index, post));
                }
            }
        }
    }
}
