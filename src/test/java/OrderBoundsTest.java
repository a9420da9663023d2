/** The boundaries of orders, selling and matching, each sentence with a test of its own. Promises 16 to 20. */
public final class OrderBoundsTest {
    private static final int[] OUT = {-1, Integer.MIN_VALUE, Integer.MAX_VALUE};

    public static void main(String[] args) {
        shadesOfOrders();
        eightAtATime();
        asManyAsCanCome();
        blankOrders();
        orderNumbers();
        boundOfFit();
        boundOfEachDye();
        notSpoiled();
        sellNotPossible();
        selling();
        whatOfOrders();
        lotsThatFit();
        nearest();
        noLotInTheHouse();
        matchOfEachDye();
        matchOfAll();
        alike();
        alikeByOne();
        alikeOfTheHouse();
        Calls.end();
    }

    private static void shadesOfOrders() {
        for (int dye = 0; dye < 4; dye++) {
            String call = "order(" + (dye == 0 ? "#" : "7") + ", " + (dye == 1 ? "#" : "7") + ", "
                + (dye == 2 ? "#" : "7") + ", " + (dye == 3 ? "#" : "7") + ")";
            Calls house = Calls.of("16: 0 to 20000: " + call, call.replace("#", "20001") + " = -1", "count(7) = 0",
                "count(10) = 0", call.replace("#", "0") + " = 0", call.replace("#", "20000") + " = 1",
                call.replace("#", "19999") + " = 2", call.replace("#", "1") + " = 3", "orderOf(0, " + dye + ") = 0",
                "orderOf(1, " + dye + ") = 20000", "orderOf(2, " + dye + ") = 19999", "orderOf(3, " + dye + ") = 1",
                "orderOf(0, " + (dye + 1) % 4 + ") = 7", "orderOf(1, " + (dye + 3) % 4 + ") = 7");
            for (int shade : OUT) {
                house.then(call.replace("#", "" + shade) + " = -1");
            }
            house.then("count(7) = 4", "count(10) = 4");
        }
    }

    private static void eightAtATime() {
        Calls house = Calls.of("16: at most 8 orders at a time that are not served", "lot(0, 100) = 0",
            "lot(0, 100) = 1", "hang(0, 0) = 1", "hang(1, 0) = 2");
        for (int i = 0; i < 8; i++) {
            house.then("count(8) = " + i, "order(0, 0, 0, " + i + ") = " + i);
        }
        house.then("count(8) = 8", "order(0, 0, 0, 0) = -3", "order(20000, 20000, 20000, 20000) = -3",
            "order(0, 0, 0, 20001) = -1", "order(-1, 0, 0, 0) = -1", "count(7) = 8", "orderOf(8, 0) = -1",
            "sell(0, 3) = 100", "count(8) = 7", "order(5, 0, 0, 0) = 8", "orderOf(8, 0) = 5", "order(0, 0, 0, 0) = -3",
            "sell(1, 8) = 100", "count(8) = 7", "count(7) = 9", "order(0, 0, 0, 0) = 9", "order(0, 0, 0, 0) = -3",
            "undo() = 3", "order(0, 6, 0, 0) = 9", "orderOf(9, 1) = 6", "undo() = 3", "undo() = 2",
            "order(0, 0, 0, 0) = -3");
    }

    // Each order that is served frees a place, but there are 20 lots and each is sold once: 28 are the
    // most that come, and 60 in all cannot be reached.
    private static void asManyAsCanCome() {
        Calls house = new Calls("16: 28 orders come ahead of any limit but that of 8");
        for (int i = 0; i < 7; i++) {
            house.then("order(20000, 0, 0, 0) = " + i);
        }
        for (int i = 0; i < 20; i++) {
            house.then("lot(1, 100) = " + i, "order(0, 0, 0, 0) = " + (i + 7), "order(0, 0, 0, 0) = -3",
                "hang(" + i + ", 1) = 1", "sell(" + i + ", " + (i + 7) + ") = 100", "lotOf(" + i + ", 8) = " + (i + 7));
        }
        house.then("order(1, 0, 0, 0) = 27", "order(0, 0, 0, 0) = -3", "count(7) = 28", "count(8) = 8", "count(6) = 20",
            "orderOf(27, 0) = 1", "orderOf(26, 4) = 1", "orderOf(28, 0) = -1", "orderOf(60, 0) = -1");
    }

    private static void blankOrders() {
        Calls.of("16: a new order is not served, also where one was that was taken back", "lot(0, 100) = 0",
            "hang(0, 0) = 1", "order(1, 2, 3, 4) = 0", "orderOf(0, 4) = 0", "sell(0, 0) = 100", "orderOf(0, 4) = 1",
            "undo() = 3", "orderOf(0, 4) = 0", "undo() = 2", "order(5, 6, 7, 8) = 0", "orderOf(0, 4) = 0",
            "orderOf(0, 0) = 5", "orderOf(0, 3) = 8", "count(8) = 1");
    }

    private static void orderNumbers() {
        String[] calls = {"sell(0, #)", "orderOf(#, 0)", "orderOf(#, 6)", "plan(0, #, -1)"};
        for (String call : calls) {
            Calls house = Calls.of("17 to 21: number of the order: " + call, "lot(0, 100) = 0", "hang(0, 0) = 1",
                call.replace("#", "0") + " = -1", "order(0, 0, 0, 0) = 0", call.replace("#", "1") + " = -1",
                "order(0, 0, 0, 150) = 1", call.replace("#", "2") + " = -1", call.replace("#", "28") + " = -1",
                call.replace("#", "60") + " = -1");
            for (int number : OUT) {
                house.then(call.replace("#", "" + number) + " = -1");
            }
            house.then("count(6) = 0", "orderOf(1, 3) = 150", "orderOf(1, 6) = 0", "plan(0, 1, -1) = 0",
                "sell(0, 1) = 100");
        }
    }

    /** A lot of the shade 2500 of a dye, and an order that asks for so much of it. */
    private static void fit(int dye, int bound, int asked, int fits) {
        String shades = (dye == 0 ? asked : 0) + ", " + (dye == 1 ? asked : 0) + ", " + (dye == 2 ? asked : 0) + ", "
            + (dye == 3 ? asked : 0);
        Calls.of("17: each of its shades differs by at most the setting 4: " + shades + ", bound " + bound,
            "vat(" + dye + ", 10) = 0", "weigh(0, 1000) = 1000", "lot(0, 200) = 0", "dip(0, 0) = 500",
            "shade(0, " + dye + ") = 2500", "drain(0) = 500", "order(" + shades + ") = 0", "set(4, " + bound + ") = 150",
            "hang(0, 0) = 1", "orderOf(0, 5) = " + fits, "plan(0, 0, -1) = " + (fits == 1 ? 0 : -4),
            "sell(0, 0) = " + (fits == 1 ? 200 : -2), "count(6) = " + fits, "orderOf(0, 4) = " + fits);
    }

    private static void boundOfFit() {
        for (int bound : new int[] {0, 1, 150, 250, 1999, 2000}) {
            fit(0, bound, 2500 - bound, 1);
            fit(0, bound, 2500 - bound - 1, 0);
            fit(0, bound, 2500 + bound, 1);
            fit(0, bound, 2500 + bound + 1, 0);
        }
    }

    private static void boundOfEachDye() {
        for (int dye = 0; dye < 4; dye++) {
            fit(dye, 200, 2300, 1);
            fit(dye, 200, 2299, 0);
            fit(dye, 200, 2700, 1);
            fit(dye, 200, 2701, 0);
        }
        for (int dye = 0; dye < 4; dye++) {
            String over = (dye == 0 ? 151 : 150) + ", " + (dye == 1 ? 151 : 150) + ", " + (dye == 2 ? 151 : 150) + ", "
                + (dye == 3 ? 151 : 150);
            Calls.of("17: each of its shades, not their sum", "lot(0, 100) = 0", "hang(0, 0) = 1",
                "order(150, 150, 150, 150) = 0", "order(" + over + ") = 1", "orderOf(0, 5) = 1", "orderOf(1, 5) = 0",
                "sell(0, 1) = -2", "sell(0, 0) = 100");
        }
    }

    private static void notSpoiled() {
        Calls.of("17: a lot fits if it is not spoiled; a dark one may fit", "vat(0, 10) = 0", "vat(3, 10) = 1",
            "weigh(0, 200) = 200", "weigh(1, 800) = 800", "lot(0, 200) = 0", "set(3, 100) = 8000", "dip(0, 0) = 100",
            "hang(0, 0) = 1", "order(500, 0, 0, 0) = 0", "order(500, 0, 0, 2000) = 1", "orderOf(0, 5) = 0",
            "sell(0, 0) = -2", "take(0) = 0", "dip(0, 1) = 400", "lotOf(0, 7) = 1", "hang(0, 0) = 1", "orderOf(1, 5) = 1",
            "sell(0, 0) = -2", "sell(0, 1) = 200", "count(5) = 1");
    }

    private static void sellNotPossible() {
        Calls.of("17: NOT_POSSIBLE if the lot does not hang", "lot(0, 100) = 0", "order(0, 0, 0, 0) = 0",
            "sell(0, 0) = -2", "hang(0, 0) = 1", "take(0) = 0", "sell(0, 0) = -2", "hang(0, 0) = 1", "sell(0, 0) = 100");
        Calls.of("17: NOT_POSSIBLE if the lot is sold", "lot(0, 100) = 0", "order(0, 0, 0, 0) = 0",
            "order(0, 0, 0, 0) = 1", "hang(0, 0) = 1", "sell(0, 0) = 100", "sell(0, 1) = -2", "sell(0, 0) = -2",
            "orderOf(1, 4) = 0", "lotOf(0, 8) = 0", "count(10) = 4");
        Calls.of("17: NOT_POSSIBLE if the order is served", "lot(0, 100) = 0", "lot(0, 100) = 1",
            "order(0, 0, 0, 0) = 0", "hang(0, 0) = 1", "hang(1, 0) = 2", "sell(0, 0) = 100", "sell(1, 0) = -2",
            "lotOf(1, 8) = -4", "lotOf(1, 5) = 1", "count(6) = 1", "order(0, 0, 0, 0) = 1", "sell(1, 1) = 100");
        Calls.of("17: INVALID_ARGUMENT rather than NOT_POSSIBLE", "lot(0, 100) = 0", "order(0, 0, 0, 0) = 0",
            "sell(0, 1) = -1", "sell(1, 0) = -1", "hang(0, 0) = 1", "sell(0, 0) = 100", "sell(0, 1) = -1",
            "sell(1, 0) = -1", "sell(0, 0) = -2");
    }

    private static void selling() {
        Calls.of("17: returns the weight; the lot is in the house no more", "vat(2, 10) = 0", "weigh(0, 40) = 40",
            "lot(1, 5000) = 0", "lot(0, 100) = 1", "dip(0, 0) = 39", "order(0, 0, 7, 0) = 0", "hang(0, 1) = 1",
            "hang(1, 0) = 1", "sell(0, 0) = 5000", "count(1) = 2", "count(2) = 1", "count(3) = 1", "count(6) = 1",
            "lotOf(0, 0) = 1", "lotOf(0, 2) = 7", "lotOf(0, 3) = 36", "lotOf(0, 4) = 3", "lotOf(0, 9) = 1",
            "account(2, 2) = 0", "account(2, 3) = 0", "account(2, 4) = 39", "undo() = 3", "account(2, 2) = 36",
            "account(2, 3) = 3", "account(2, 4) = 0", "lotOf(0, 5) = 1", "orderOf(0, 4) = 0");
    }

    private static void whatOfOrders() {
        Calls house = Calls.of("18: what: 0 to 6", "lot(0, 100) = 0", "order(11, 22, 33, 44) = 0", "orderOf(0, -1) = -1",
            "orderOf(0, 0) = 11", "orderOf(0, 1) = 22", "orderOf(0, 2) = 33", "orderOf(0, 3) = 44", "orderOf(0, 4) = 0",
            "orderOf(0, 5) = 1", "orderOf(0, 6) = 0", "orderOf(0, 7) = -1");
        for (int what : OUT) {
            house.then("orderOf(0, " + what + ") = -1", "orderOf(1, " + what + ") = -1");
        }
    }

    private static void lotsThatFit() {
        Calls house = new Calls("18: how many lots in the house fit it");
        house.then("order(0, 0, 0, 150) = 0", "orderOf(0, 5) = 0");
        for (int i = 0; i < 20; i++) {
            house.then("lot(" + i % 2 + ", 100) = " + i, "orderOf(0, 5) = " + (i + 1));
        }
        house.then("set(4, 149) = 150", "orderOf(0, 5) = 0", "set(4, 150) = 149", "hang(0, 0) = 1", "orderOf(0, 5) = 20",
            "sell(0, 0) = 100", "orderOf(0, 4) = 1", "orderOf(0, 5) = 19", "vat(3, 10) = 0", "weigh(0, 90) = 90",
            "dip(1, 0) = 45", "shade(1, 3) = 450", "orderOf(0, 5) = 18");
    }

    private static void nearest() {
        Calls.of("18: the lot whose differences of shades, added up, are least", "vat(0, 10) = 0", "vat(1, 10) = 1",
            "weigh(0, 400) = 400", "weigh(1, 400) = 400", "lot(0, 200) = 0", "lot(0, 200) = 1", "lot(0, 200) = 2",
            "dip(0, 0) = 200", "dip(1, 1) = 200", "order(500, 0, 0, 0) = 0", "orderOf(0, 6) = 0",
            "order(499, 0, 0, 0) = 1", "orderOf(1, 6) = 2", "order(0, 501, 0, 0) = 2", "orderOf(2, 6) = 1",
            "order(500, 500, 0, 0) = 3", "orderOf(3, 6) = 0", "order(500, 501, 0, 0) = 4", "orderOf(4, 6) = 1",
            "order(400, 0, 400, 0) = 5", "orderOf(5, 6) = 2", "order(20000, 20000, 20000, 20000) = 6",
            "orderOf(6, 6) = 0", "order(1200, 0, 0, 0) = 7", "orderOf(7, 6) = 0");
        Calls.of("18: added up, not the greatest of them", "vat(0, 10) = 0", "vat(1, 10) = 1", "weigh(0, 400) = 400",
            "lot(0, 200) = 0", "lot(0, 200) = 1", "dip(0, 0) = 200", "drain(0) = 200", "weigh(0, 160) = 160",
            "weigh(1, 160) = 160", "dip(1, 0) = 80", "dip(1, 1) = 80", "order(501, 0, 0, 0) = 0", "orderOf(0, 6) = 0",
            "order(499, 0, 0, 0) = 1", "orderOf(1, 6) = 1", "order(500, 0, 0, 0) = 2", "orderOf(2, 6) = 0");
        Calls.of("18: of several the lowest, in the house", "lot(0, 100) = 0", "lot(0, 100) = 1", "lot(0, 100) = 2",
            "order(0, 0, 0, 0) = 0", "order(0, 0, 0, 0) = 1", "order(9, 9, 9, 9) = 2", "orderOf(2, 6) = 0",
            "hang(0, 0) = 1", "orderOf(2, 6) = 0", "sell(0, 0) = 100", "orderOf(2, 6) = 1", "orderOf(0, 6) = 1",
            "hang(1, 0) = 1", "sell(1, 1) = 100", "orderOf(2, 6) = 2", "orderOf(0, 6) = 2");
        Calls.of("18: the nearest one may be spoiled", "vat(0, 10) = 0", "weigh(0, 400) = 400", "lot(0, 200) = 0",
            "lot(0, 200) = 1", "set(3, 100) = 8000", "dip(1, 0) = 200", "order(1000, 0, 0, 0) = 0", "orderOf(0, 6) = 1",
            "orderOf(0, 5) = 0");
    }

    private static void noLotInTheHouse() {
        Calls.of("18: NOT_FOUND for 6 if no lot is in the house", "order(0, 0, 0, 0) = 0", "orderOf(0, 6) = -4",
            "orderOf(0, 5) = 0", "orderOf(1, 6) = -1", "orderOf(0, 7) = -1", "lot(0, 100) = 0", "orderOf(0, 6) = 0",
            "hang(0, 0) = 1", "sell(0, 0) = 100", "orderOf(0, 6) = -4", "orderOf(0, 5) = 0", "orderOf(0, 4) = 1",
            "orderOf(1, 6) = -1");
    }

    private static void matchOfEachDye() {
        for (int dye = 0; dye < 4; dye++) {
            Calls.of("19: if each of their shades differ by at most the setting 4", "vat(" + dye + ", 10) = 0",
                "weigh(0, 80) = 80", "lot(0, 200) = 0", "lot(1, 100) = 1", "dip(0, 0) = 40", "dip(1, 0) = 20",
                "shade(0, " + dye + ") = 200", "shade(1, " + dye + ") = 200", "match(0, 1) = 1", "set(4, 0) = 150",
                "match(0, 1) = 1", "dip(0, 0) = 10", "shade(0, " + dye + ") = 250", "match(0, 1) = 0", "set(4, 49) = 0",
                "match(0, 1) = 0", "match(1, 0) = 0", "set(4, 50) = 49", "match(0, 1) = 1", "match(1, 0) = 1",
                "match(0, 0) = 1", "set(4, 0) = 50", "match(1, 1) = 1");
        }
    }

    private static void matchOfAll() {
        Calls.of("19: each of their shades, not their sum; the greatest setting", "vat(0, 10) = 0", "vat(1, 10) = 1",
            "weigh(0, 800) = 800", "weigh(1, 801) = 801", "lot(0, 200) = 0", "lot(0, 200) = 1", "lot(0, 100) = 2",
            "dip(0, 0) = 400", "set(4, 2000) = 150", "shade(0, 0) = 2000", "match(0, 1) = 1", "dip(1, 1) = 400",
            "match(0, 1) = 1", "match(0, 2) = 1", "match(1, 2) = 1", "dip(0, 0) = 200", "match(0, 1) = 0",
            "match(0, 2) = 0", "match(1, 2) = 1", "match(1, 3) = -1", "match(3, 1) = -1", "match(3, 3) = -1",
            "set(4, 1999) = 2000", "match(1, 2) = 0");
        Calls.of("19: also of spoiled and of sold ones", "vat(0, 10) = 0", "weigh(0, 60) = 60", "lot(0, 200) = 0",
            "lot(0, 200) = 1", "set(3, 100) = 8000", "dip(0, 0) = 30", "lotOf(0, 6) = 1", "match(0, 1) = 1",
            "order(0, 0, 0, 0) = 0", "hang(1, 0) = 1", "sell(1, 0) = 200", "match(0, 1) = 1", "match(1, 1) = 1");
    }

    private static void alike() {
        for (int dye = 0; dye < 4; dye++) {
            Calls.of("20: apart by the setting 4 at most, all of them", "vat(" + dye + ", 10) = 0", "weigh(0, 80) = 80",
                "lot(0, 200) = 0", "lot(0, 200) = 1", "lot(0, 200) = 2", "dip(1, 0) = 40", "dip(2, 0) = 20",
                "dip(2, 0) = 10", "drain(0) = 10", "weigh(0, 500) = 500", "dip(2, 0) = 250", "shade(1, " + dye + ") = 200",
                "shade(2, " + dye + ") = 1400", "alike(" + dye + ") = 1", "set(4, 199) = 150", "alike(" + dye + ") = 1",
                "set(4, 200) = 199", "alike(" + dye + ") = 2", "set(4, 1199) = 200", "alike(" + dye + ") = 2",
                "set(4, 1200) = 1199", "alike(" + dye + ") = 2", "set(4, 1399) = 1200", "alike(" + dye + ") = 2",
                "set(4, 1400) = 1399", "alike(" + dye + ") = 3", "alike(" + (dye + 1) % 4 + ") = 3");
        }
        Calls.of("20: lots of the same shade, for the setting 0", "vat(0, 10) = 0", "lot(0, 200) = 0",
            "lot(0, 200) = 1", "lot(0, 200) = 2", "set(4, 0) = 150", "alike(0) = 3", "weigh(0, 2) = 2", "dip(1, 0) = 1",
            "alike(0) = 2", "weigh(0, 1) = 2", "dip(2, 0) = 1", "alike(0) = 2", "lot(0, 200) = 3", "alike(0) = 2",
            "lot(0, 200) = 4", "alike(0) = 3", "alike(3) = 5");
    }

    private static void alikeByOne() {
        Calls house = Calls.of("20: not more than the setting 4 apart, by one thousandth", "vat(0, 10) = 0",
            "lot(0, 1000) = 0", "lot(0, 1000) = 1", "lot(0, 1000) = 2", "set(4, 9) = 150");
        int[] grains = {12, 14, 24};
        int[] taken = {10, 11, 20};
        for (int i = 0; i < 3; i++) {
            house.then("weigh(0, " + grains[i] + ") = " + grains[i], "dip(" + i + ", 0) = " + taken[i],
                "drain(0) = " + (grains[i] - taken[i]), "shade(" + i + ", 0) = " + (i == 2 ? 20 : 10 + i));
        }
        house.then("alike(0) = 2", "set(4, 8) = 9", "alike(0) = 2", "set(4, 0) = 8", "alike(0) = 1", "set(4, 1) = 0",
            "alike(0) = 2", "set(4, 10) = 1", "alike(0) = 3");
    }

    private static void alikeOfTheHouse() {
        Calls house = Calls.of("20: dye: 0 to 3; none in an empty house", "alike(-1) = -1", "alike(0) = 0", "alike(3) = 0",
            "alike(4) = -1");
        for (int dye : OUT) {
            house.then("alike(" + dye + ") = -1");
        }
        for (int i = 0; i < 20; i++) {
            house.then("lot(" + i % 2 + ", 100) = " + i, "alike(" + i % 4 + ") = " + (i + 1));
        }
        house.then("order(0, 0, 0, 0) = 0", "hang(7, 1) = 1", "alike(0) = 20", "sell(7, 0) = 100", "alike(0) = 19",
            "undo() = 3", "alike(0) = 20");
        Calls.of("20: none if all are sold", "lot(0, 100) = 0", "order(0, 0, 0, 0) = 0", "hang(0, 0) = 1",
            "sell(0, 0) = 100", "alike(0) = 0", "alike(3) = 0", "alike(4) = -1");
        Calls.of("20: spoiled ones too", "vat(0, 10) = 0", "weigh(0, 60) = 60", "lot(0, 200) = 0", "lot(0, 200) = 1",
            "set(3, 100) = 8000", "dip(0, 0) = 30", "lotOf(0, 6) = 1", "alike(0) = 2");
    }
}
