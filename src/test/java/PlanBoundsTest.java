/** The boundaries of plans and of what a lot would take, each sentence with a test of its own. Promises 21, 22. */
public final class PlanBoundsTest {
    private static final int[] OUT = {-2, Integer.MIN_VALUE};

    public static void main(String[] args) {
        positions();
        fitsAlready();
        noVats();
        fourDips();
        boundOfPlans();
        vatsWithDye();
        hangingOrNot();
        fewestDips();
        lowerNumbers();
        lastOfSixVats();
        spoiledOnTheWay();
        soldLots();
        changesNothing();
        times();
        takes();
        Calls.end();
    }

    /** Half of the grains of a vat go into the lot at each dip; orders are met to the shade. */
    private static Calls halves(String title, int... dyes) {
        Calls house = Calls.of(title, "lot(0, 200) = 0", "set(4, 0) = 150", "set(3, 20000) = 8000");
        for (int i = 0; i < dyes.length; i++) {
            house.then("vat(" + dyes[i] + ", 10) = " + i, "weigh(" + i + ", 1600) = 1600");
        }
        return house;
    }

    private static void positions() {
        Calls house = halves("21: index: -1 for how many dips, otherwise the position of a dip, from 0", 0, 1).then(
            "order(6000, 4000, 0, 0) = 0", "plan(0, 0, -1) = 3", "plan(0, 0, 0) = 0", "plan(0, 0, 1) = 0",
            "plan(0, 0, 2) = 1", "plan(0, 0, 3) = -4", "plan(0, 0, 4) = -4", "plan(0, 0, 2147483647) = -4");
        for (int index : OUT) {
            house.then("plan(0, 0, " + index + ") = -1", "plan(1, 0, " + index + ") = -1", "plan(0, 1, " + index + ") = -1");
        }
    }

    private static void fitsAlready() {
        halves("21: 0 if the lot fits already", 0).then("order(0, 0, 0, 0) = 0", "plan(0, 0, -1) = 0", "plan(0, 0, 0) = -4",
            "dip(0, 0) = 800", "plan(0, 0, -1) = -4", "order(4000, 0, 0, 0) = 1", "plan(0, 1, -1) = 0",
            "plan(0, 1, 0) = -4");
        Calls.of("21: by the bound", "lot(0, 200) = 0", "order(150, 150, 150, 150) = 0", "order(0, 151, 0, 0) = 1",
            "plan(0, 0, -1) = 0", "plan(0, 1, -1) = -4", "set(4, 151) = 150", "plan(0, 1, -1) = 0");
    }

    private static void noVats() {
        Calls.of("21: NOT_FOUND if there is no plan", "lot(0, 200) = 0", "order(1000, 0, 0, 0) = 0", "plan(0, 0, -1) = -4",
            "plan(0, 0, 0) = -4", "plan(0, 0, -2) = -1", "vat(0, 10) = 0", "plan(0, 0, -1) = -4", "weigh(0, 400) = 400",
            "plan(0, 0, -1) = 1", "plan(0, 0, 0) = 0", "plan(0, 0, 1) = -4", "drain(0) = 400", "plan(0, 0, -1) = -4");
    }

    private static void fourDips() {
        Calls house = halves("21: a row of at most 4 vats", 0).then("order(4000, 0, 0, 0) = 0", "order(6000, 0, 0, 0) = 1",
            "order(7000, 0, 0, 0) = 2", "order(7500, 0, 0, 0) = 3", "order(7750, 0, 0, 0) = 4");
        for (int dips = 1; dips <= 4; dips++) {
            house.then("plan(0, " + (dips - 1) + ", -1) = " + dips, "plan(0, " + (dips - 1) + ", " + (dips - 1) + ") = 0",
                "plan(0, " + (dips - 1) + ", " + dips + ") = -4");
        }
        house.then("plan(0, 4, -1) = -4", "plan(0, 4, 0) = -4", "dip(0, 0) = 800", "plan(0, 4, -1) = 4",
            "plan(0, 3, -1) = 3", "plan(0, 0, -1) = 0");
    }

    private static void boundOfPlans() {
        halves("21: so that it would fit the order behind the last one", 2).then("order(0, 0, 6100, 0) = 0",
            "order(0, 0, 5900, 0) = 1", "set(4, 99) = 0", "plan(0, 0, -1) = -4", "plan(0, 1, -1) = -4",
            "set(4, 100) = 99", "plan(0, 0, -1) = 2", "plan(0, 1, -1) = 2", "set(4, 2000) = 100", "plan(0, 1, -1) = 1");
    }

    private static void vatsWithDye() {
        halves("21: each of them has dye then", 0, 1, 0).then("order(4000, 0, 0, 0) = 0", "plan(0, 0, 0) = 0",
            "drain(0) = 1600", "plan(0, 0, -1) = 1", "plan(0, 0, 0) = 2", "weigh(0, 1) = 1", "plan(0, 0, 0) = 2",
            "drain(2) = 1600", "plan(0, 0, -1) = -4");
        Calls.of("21: one grain is dye, though the lot takes nothing of it", "vat(0, 10) = 0", "vat(3, 10) = 1",
            "weigh(0, 400) = 400", "lot(0, 200) = 0", "set(6, 0) = 2000", "set(3, 100) = 8000", "dip(0, 0) = 200",
            "lotOf(0, 6) = 1", "order(1000, 0, 0, 0) = 0", "plan(0, 0, -1) = -4", "weigh(1, 1) = 1", "plan(0, 0, -1) = 1",
            "plan(0, 0, 0) = 1", "drain(1) = 1", "plan(0, 0, -1) = -4");
    }

    private static void hangingOrNot() {
        halves("21: whether it hangs or not", 0).then("order(6000, 0, 0, 0) = 0", "plan(0, 0, -1) = 2", "hang(0, 0) = 1",
            "plan(0, 0, -1) = 2", "plan(0, 0, 1) = 0", "lotOf(0, 5) = 1");
    }

    private static void fewestDips() {
        Calls house = halves("21: the best plan is that with the fewest dips", 0, 0).then("drain(0) = 1600",
            "weigh(0, 800) = 800");
        house.then("order(4000, 0, 0, 0) = 0", "plan(0, 0, -1) = 1", "plan(0, 0, 0) = 1", "order(3000, 0, 0, 0) = 1",
            "plan(0, 1, -1) = 2", "plan(0, 1, 0) = 0", "plan(0, 1, 1) = 0", "order(7000, 0, 0, 0) = 2",
            "plan(0, 2, -1) = 3", "plan(0, 2, 0) = 0", "plan(0, 2, 1) = 0", "plan(0, 2, 2) = 1",
            "order(6000, 0, 0, 0) = 3", "plan(0, 3, -1) = 2", "plan(0, 3, 0) = 0", "plan(0, 3, 1) = 1");
        house.then("undo() = 3", "undo() = 2", "order(7500, 0, 0, 0) = 2", "plan(0, 2, -1) = 4", "plan(0, 2, 3) = 1");
    }

    private static void lowerNumbers() {
        halves("21: compared one by one from the first on, the lower number where they first differ", 1, 0, 1, 0).then(
            "order(4000, 4000, 0, 0) = 0", "plan(0, 0, -1) = 2", "plan(0, 0, 0) = 0", "plan(0, 0, 1) = 1",
            "order(8000, 8000, 0, 0) = 1", "plan(0, 1, -1) = 4", "plan(0, 1, 0) = 0", "plan(0, 1, 1) = 1",
            "plan(0, 1, 2) = 2", "plan(0, 1, 3) = 3", "order(4000, 8000, 0, 0) = 2", "plan(0, 2, -1) = 3",
            "plan(0, 2, 0) = 0", "plan(0, 2, 1) = 1", "plan(0, 2, 2) = 2", "order(0, 8000, 0, 0) = 3",
            "plan(0, 3, -1) = 2", "plan(0, 3, 0) = 0", "plan(0, 3, 1) = 2", "order(8000, 0, 0, 0) = 4",
            "plan(0, 4, 0) = 1", "plan(0, 4, 1) = 3", "order(8000, 4000, 0, 0) = 5", "plan(0, 5, -1) = 3",
            "plan(0, 5, 0) = 0", "plan(0, 5, 1) = 1", "plan(0, 5, 2) = 3");
    }

    private static void lastOfSixVats() {
        Calls house = Calls.of("21: among six vats, four of the last one", "lot(0, 200) = 0", "set(4, 0) = 150",
            "set(3, 20000) = 8000");
        for (int i = 0; i < 5; i++) {
            house.then("vat(" + i % 3 + ", 10) = " + i, "weigh(" + i + ", 1600) = 1600");
        }
        house.then("vat(3, 10) = 5", "weigh(5, 1600) = 1600", "order(0, 0, 0, 7500) = 0", "plan(0, 0, -1) = 4",
            "plan(0, 0, 0) = 5", "plan(0, 0, 1) = 5", "plan(0, 0, 2) = 5", "plan(0, 0, 3) = 5", "plan(0, 0, 4) = -4",
            "order(4000, 4000, 4000, 4000) = 1", "plan(0, 1, -1) = 4", "plan(0, 1, 0) = 0", "plan(0, 1, 1) = 1",
            "plan(0, 1, 2) = 2", "plan(0, 1, 3) = 5", "order(4000, 4000, 4000, 4001) = 2", "plan(0, 2, -1) = -4",
            "set(4, 1) = 0", "plan(0, 2, -1) = 4");
    }

    private static void spoiledOnTheWay() {
        halves("21: a dip that goes deeper than the setting 3 spoils the plan", 0).then("order(6000, 0, 0, 0) = 0",
            "set(3, 6000) = 20000", "plan(0, 0, -1) = 2", "set(3, 5999) = 6000", "plan(0, 0, -1) = -4");
        halves("21: the dirt of its own dips", 0).then("order(7000, 0, 0, 0) = 0", "order(6000, 0, 0, 0) = 1",
            "set(1, 50) = 5", "set(2, 20) = 200", "plan(0, 0, -1) = 3", "set(2, 19) = 20", "plan(0, 0, -1) = -4",
            "plan(0, 1, -1) = 2", "set(1, 25) = 50", "plan(0, 0, -1) = 3");
        halves("21: spoiled, and saved by black", 3, 0).then("order(6000, 0, 0, 4000) = 0", "set(3, 8000) = 20000",
            "plan(0, 0, -1) = 3", "plan(0, 0, 0) = 1", "plan(0, 0, 1) = 1", "plan(0, 0, 2) = 0", "set(6, 4001) = 2000",
            "plan(0, 0, -1) = -4", "set(6, 4000) = 4001", "plan(0, 0, 2) = 0");
        halves("21: a spoiled lot has to be dipped", 0, 3).then("set(3, 100) = 20000", "dip(0, 0) = 800", "lotOf(0, 6) = 1",
            "order(4000, 0, 0, 0) = 0", "plan(0, 0, -1) = -4", "order(4000, 0, 0, 4000) = 1", "plan(0, 1, -1) = 1",
            "plan(0, 1, 0) = 1", "lotOf(0, 6) = 1", "lotOf(0, 7) = 0");
    }

    private static void soldLots() {
        halves("21: NOT_POSSIBLE if the lot is sold", 0).then("order(0, 0, 0, 0) = 0", "order(4000, 0, 0, 0) = 1",
            "hang(0, 0) = 1", "sell(0, 0) = 200", "plan(0, 0, -1) = -2", "plan(0, 1, -1) = -2", "plan(0, 1, 5) = -2",
            "plan(0, 1, -2) = -1", "plan(0, 2, -1) = -1", "plan(1, 1, -1) = -1", "takes(0, 0, 1) = -2",
            "takes(0, 0, 30) = -2", "takes(0, 0, 0) = -1", "takes(0, 0, 31) = -1", "takes(0, 1, 1) = -1",
            "takes(1, 0, 1) = -1");
        halves("21: for an order that is served, too", 0).then("lot(0, 200) = 1", "order(0, 0, 0, 0) = 0",
            "order(4000, 0, 0, 0) = 1", "hang(0, 0) = 1", "sell(0, 0) = 200", "plan(1, 0, -1) = 0", "dip(1, 0) = 800",
            "hang(1, 0) = 1", "sell(1, 1) = 200", "lot(0, 100) = 2", "plan(2, 0, -1) = 0", "set(4, 1400) = 0",
            "plan(2, 1, -1) = 1");
    }

    private static void changesNothing() {
        halves("21, 22: they tell, and do nothing", 0, 3).then("order(7000, 0, 0, 7500) = 0", "order(6000, 0, 0, 4000) = 1",
            "plan(0, 0, -1) = -4", "plan(0, 1, -1) = 3", "takes(0, 0, 30) = 1599", "takes(0, 0, 30) = 1599",
            "vatOf(0, 2) = 1600", "vatOf(0, 3) = 0", "vatOf(1, 2) = 1600", "lotOf(0, 2) = 0", "lotOf(0, 9) = 0",
            "lotOf(0, 6) = 0", "count(9) = 0", "count(10) = 4", "account(0, 1) = 1600", "undo() = 3", "count(7) = 1");
    }

    private static void times() {
        Calls house = Calls.of("22: times: 1 to 30", "vat(0, 1000) = 0", "weigh(0, 100000) = 100000", "lot(0, 5000) = 0",
            "takes(0, 0, 0) = -1", "takes(0, 0, 1) = 20000", "takes(0, 0, 2) = 36000", "takes(0, 0, 29) = 99843",
            "takes(0, 0, 30) = 99874", "takes(0, 0, 31) = -1");
        for (int times : new int[] {-1, Integer.MIN_VALUE, Integer.MAX_VALUE}) {
            house.then("takes(0, 0, " + times + ") = -1");
        }
        house.then("vatOf(0, 2) = 100000", "count(10) = 3");
    }

    private static void takes() {
        Calls.of("22: whether it hangs or not; a vat without dye gives nothing", "vat(0, 10) = 0", "lot(1, 100) = 0",
            "takes(0, 0, 1) = 0", "takes(0, 0, 30) = 0", "weigh(0, 1) = 1", "takes(0, 0, 30) = 0", "weigh(0, 1) = 2",
            "takes(0, 0, 1) = 1", "takes(0, 0, 30) = 1", "hang(0, 1) = 1", "takes(0, 0, 1) = 1", "drain(0) = 2",
            "takes(0, 0, 1) = 0", "weigh(0, 7) = 7", "takes(0, 0, 1) = 3", "takes(0, 0, 2) = 5", "takes(0, 0, 3) = 6",
            "takes(0, 0, 4) = 6");
        Calls.of("22: dirt and spoiling do not matter", "vat(0, 10) = 0", "weigh(0, 1600) = 1600", "lot(0, 200) = 0",
            "set(3, 100) = 8000", "set(1, 50) = 5", "set(2, 10) = 200", "takes(0, 0, 4) = 1500", "dip(0, 0) = 800",
            "lotOf(0, 6) = 1", "takes(0, 0, 3) = 700");
        Calls.of("22: by the settings and the cloth", "vat(0, 10) = 0", "weigh(0, 1000) = 1000", "lot(0, 100) = 0",
            "lot(1, 100) = 1", "takes(0, 0, 1) = 333", "takes(1, 0, 1) = 500", "set(0, 10) = 20", "takes(0, 0, 1) = 500",
            "takes(1, 0, 1) = 666", "takes(1, 0, 2) = 888", "set(5, 0) = 10", "takes(1, 0, 2) = 888");
    }
}
