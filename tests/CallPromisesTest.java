/** Promises 27 to 35: engines that are out, and what is told of the calls. */
public final class CallPromisesTest {
    /** The fourth kind finds nobody in time, the fifth one has a greater need than engines. */
    private static final String TEXT = "night 22 6 5 240;person a 4 chief driver;person b 6 driver;person c 3 medic;"
            + "person d 10 smoke;person e 2;pager p 0 24 a;pager q 0 24 b;pager r 0 24 c;pager s 0 24 d;pager t 0 24 e;"
            + "engine g 10 driver any;engine h 20 chief;engine i 5 any;kind k 30 240 2:p q r s t:g h i;"
            + "kind l 300 6 1:q:h i;kind m 999 240 1:p:g h;kind n 30 1 1:p q r s t:g h i;kind o 30 240 3:q s:i;";
    private static final int[] NO_ENGINES = {-1, 3, 5, Integer.MIN_VALUE, Integer.MAX_VALUE};
    private static final Class<IndexOutOfBoundsException> NO_INDEX = IndexOutOfBoundsException.class;

    public static void main(String[] args) {
        returnsAt();
        cost();
        isAnswered();
        came();
        left();
        engine();
        leftAt();
        member();
        totalCost();
        Check.end();
    }

    /** At 600, by day: a and c leave with g at 604, e with i at 602; b and d go home again. */
    private static BrigadePagers called() {
        BrigadePagers x = Check.brigade(TEXT);
        x.pass(600);
        x.call(0);
        return x;
    }

    /** At 700 all have returned: b leaves with i at 706. At 701 nobody comes in time. At 1420 a leaves with h at 1429. */
    private static BrigadePagers calledMore() {
        BrigadePagers x = called();
        x.pass(100);
        x.call(1);
        x.pass(1);
        x.call(3);
        Check.passTo(x, 1420);
        x.call(2);
        return x;
    }

    private static void noCalls(String name, BrigadePagers x, Check.OfOne asked) {
        for (int call : new int[] {-1, x.count(4), 16, Integer.MIN_VALUE, Integer.MAX_VALUE}) {
            Check.refusedUnchanged(name + " of call " + call, NO_INDEX, x, () -> asked.of(call));
        }
        BrigadePagers undone = called();
        undone.undo();
        Check.due("calls after undo()", undone.count(4), 0);
    }

    private static void returnsAt() {
        Check.part("promise 27");
        BrigadePagers x = called();
        Check.due("returnsAt(0)", x.returnsAt(0), 654);
        Check.due("returnsAt(1)", x.returnsAt(1), BrigadePagers.NONE);
        Check.due("returnsAt(2)", x.returnsAt(2), 642);
        x.pass(41);
        Check.due("returnsAt(2) at 641", x.returnsAt(2), 642);
        x.pass(1);
        Check.due("returnsAt(2) at 642", x.returnsAt(2), BrigadePagers.NONE);
        Check.due("returnsAt(0) at 642", x.returnsAt(0), 654);
        x.undo();
        Check.due("returnsAt(2) after undo()", x.returnsAt(2), 642);
        Check.passTo(x, 20160);
        x.call(2);
        Check.due("returnsAt(1) beyond the last time", x.returnsAt(1), 20160 + 9 + 40 + 999);
        for (int engine : NO_ENGINES) {
            Check.refusedUnchanged("returnsAt(" + engine + ")", NO_INDEX, x, () -> x.returnsAt(engine));
        }
    }

    private static void cost() {
        Check.part("promise 28");
        BrigadePagers x = calledMore();
        Check.due("cost(0)", x.cost(0), 54 + 54 + 42 + 12 + 20 + 2 * 50);
        Check.due("cost(1)", x.cost(1), 6 + 10 + 300 + 50);
        Check.due("cost(2)", x.cost(2), 0);
        // Night until 1800 and again from 2760 on; a is out for 9 + 40 + 999 minutes.
        Check.due("cost(3)", x.cost(3), 1048 + 380 + 0 + 50);
        Check.passTo(x, 3000);
        Check.due("cost(1) later", x.cost(1), 366);
        noCalls("cost", x, call -> x.cost(call));
    }

    private static void isAnswered() {
        Check.part("promise 29");
        BrigadePagers x = calledMore();
        Check.due("isAnswered(0)", x.isAnswered(0), true);
        Check.due("isAnswered(1)", x.isAnswered(1), true);
        Check.due("isAnswered(2)", x.isAnswered(2), false);
        Check.due("isAnswered(3)", x.isAnswered(3), true);
        x.undo();
        Check.due("call(4)", x.call(4), 3);
        Check.due("isAnswered(3) after undo()", x.isAnswered(3), false);
        Check.due("left(3) of a call that is not answered", x.left(3), 1);
        noCalls("isAnswered", x, call -> x.isAnswered(call) ? 1 : 0);
        BrigadePagers y = called();
        Check.put(y, TEXT);
        y.load();
        Check.due("call(3)", y.call(3), 0);
        Check.due("isAnswered(0) after load()", y.isAnswered(0), false);
    }

    private static void came() {
        Check.part("promise 30");
        BrigadePagers x = calledMore();
        int[] due = {5, 1, 0, 1};
        for (int call = 0; call < 4; call++) {
            Check.due("came(" + call + ")", x.came(call), due[call]);
        }
        noCalls("came", x, call -> x.came(call));
        BrigadePagers y = Check.brigade("night 22 6 5 240;person a 4;pager p 0 1 a;pager q 0 1 a;engine e 5 any;"
                + "engine f 5 any;kind k 30 240 1:p q:e f;");
        y.call(0);
        Check.due("came(0) of one who holds two pagers", y.came(0), 1);
        Check.due("left(0) with one who holds two pagers", y.left(0), 1);
    }

    private static void left() {
        Check.part("promise 31");
        BrigadePagers x = calledMore();
        int[] due = {2, 1, 0, 1};
        for (int call = 0; call < 4; call++) {
            Check.due("left(" + call + ")", x.left(call), due[call]);
        }
        noCalls("left", x, call -> x.left(call));
    }

    private static void engine() {
        Check.part("promise 32");
        BrigadePagers x = calledMore();
        Check.due("engine(0, 0)", x.engine(0, 0), 0);
        Check.due("engine(0, 1)", x.engine(0, 1), 2);
        Check.due("engine(1, 0)", x.engine(1, 0), 2);
        Check.due("engine(3, 0)", x.engine(3, 0), 1);
        noLeavers(x, (call, index) -> x.engine(call, index));
    }

    private static void noLeavers(BrigadePagers x, Check.OfTwo asked) {
        noCalls("the first engine", x, call -> asked.of(call, 0));
        int[][] wrong = {{0, 2}, {0, -1}, {0, 5}, {1, 1}, {2, 0}, {3, 1}, {0, Integer.MIN_VALUE}, {0, Integer.MAX_VALUE}, {4, 9}};
        for (int[] row : wrong) {
            Check.refusedUnchanged("engine " + row[1] + " of call " + row[0], NO_INDEX, x, () -> asked.of(row[0], row[1]));
        }
    }

    private static void leftAt() {
        Check.part("promise 33");
        BrigadePagers x = calledMore();
        Check.due("leftAt(0, 0)", x.leftAt(0, 0), 604);
        Check.due("leftAt(0, 1)", x.leftAt(0, 1), 602);
        Check.due("leftAt(1, 0)", x.leftAt(1, 0), 706);
        Check.due("leftAt(3, 0)", x.leftAt(3, 0), 1429);
        Check.passTo(x, 3000);
        Check.due("leftAt(3, 0) later", x.leftAt(3, 0), 1429);
        noLeavers(x, (call, index) -> x.leftAt(call, index));
    }

    private static void member() {
        Check.part("promise 34");
        BrigadePagers x = calledMore();
        Check.due("member(0, 0, 0)", x.member(0, 0, 0), 0);
        Check.due("member(0, 0, 1)", x.member(0, 0, 1), 2);
        Check.due("member(0, 1, 0)", x.member(0, 1, 0), 4);
        Check.due("member(1, 0, 0)", x.member(1, 0, 0), 1);
        Check.due("member(3, 0, 0)", x.member(3, 0, 0), 0);
        int[][] wrong = {{0, 0, 2}, {0, 0, -1}, {0, 0, 6}, {0, 1, 1}, {1, 0, 1}, {0, 0, Integer.MIN_VALUE},
            {0, 0, Integer.MAX_VALUE}, {0, 2, 9}, {9, 9, 9}};
        for (int[] row : wrong) {
            Check.refusedUnchanged("member", NO_INDEX, x, () -> x.member(row[0], row[1], row[2]));
        }
        noLeavers(x, (call, index) -> x.member(call, index, 0));

        // The posts ask for them in another order than their numbers.
        BrigadePagers y = Check.brigade("night 22 6 5 240;person a 4;person b 4 medic;person c 4;person d 4 chief;"
                + "pager p 0 1 d;pager q 0 1 c;pager r 0 1 b;pager s 0 1 a;engine e 5 chief any medic;"
                + "kind k 30 240 1:p q r s:e;");
        y.call(0);
        int[] crew = {0, 1, 3};
        for (int at = 0; at < 3; at++) {
            Check.due("member(0, 0, " + at + ")", y.member(0, 0, at), crew[at]);
        }
        y.pass(500);
        Check.due("member(0, 0, 2) later", y.member(0, 0, 2), 3);
    }

    private static void totalCost() {
        Check.part("promise 35");
        BrigadePagers x = called();
        Check.due("totalCost()", x.totalCost(), 282);
        x.pass(100);
        x.call(1);
        Check.due("totalCost()", x.totalCost(), 282 + 366);
        x.save(0);
        x.undo();
        Check.due("totalCost() after undo()", x.totalCost(), 282);
        x.restore(0);
        Check.due("totalCost() after restore()", x.totalCost(), 282 + 366);
        Check.put(x, TEXT);
        x.load();
        Check.due("totalCost() after load()", x.totalCost(), 0);
    }
}
