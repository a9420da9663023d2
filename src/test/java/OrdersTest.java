/** Promises 16 to 22: orders, matching and plans. */
public final class OrdersTest {
    public static void main(String[] args) {
        order();
        sixtyOrders();
        sell();
        orderOf();
        match();
        alike();
        plan();
        planOfSpoiled();
        takes();
        Calls.end();
    }

    private static void order() {
        Calls.of("16: ranges", "order(-1, 0, 0, 0) = -1", "order(0, -1, 0, 0) = -1", "order(0, 0, -1, 0) = -1",
            "order(0, 0, 0, -1) = -1", "order(20001, 0, 0, 0) = -1", "order(0, 20001, 0, 0) = -1",
            "order(0, 0, 20001, 0) = -1", "order(0, 0, 0, 20001) = -1", "count(7) = 0", "count(10) = 0",
            "order(20000, 20000, 20000, 20000) = 0", "order(1, 2, 3, 4) = 1", "count(7) = 2", "count(10) = 2",
            "orderOf(1, 0) = 1", "orderOf(1, 1) = 2", "orderOf(1, 2) = 3", "orderOf(1, 3) = 4",
            "orderOf(0, 3) = 20000");
        Calls eight = Calls.of("16: eight that are not served", "lot(0, 100) = 0", "hang(0, 0) = 1");
        for (int i = 0; i < 8; i++) {
            eight.then("order(0, 0, 0, 0) = " + i);
        }
        eight.then("order(0, 0, 0, 0) = -3", "order(0, 0, 0, 20001) = -1", "count(8) = 8", "sell(0, 3) = 100",
            "count(8) = 7", "order(9, 0, 0, 0) = 8", "order(0, 0, 0, 0) = -3", "count(7) = 9");
    }

    // A lot can be sold but once, and there are 20 of them: so 28 orders are the most that can come.
    private static void sixtyOrders() {
        Calls most = new Calls("16: as many as can come");
        for (int i = 0; i < 20; i++) {
            most.then("lot(0, 100) = " + i, "order(0, 0, 0, 0) = " + i, "hang(" + i + ", 0) = 1",
                "sell(" + i + ", " + i + ") = 100");
        }
        for (int i = 20; i < 28; i++) {
            most.then("order(0, 0, 0, 0) = " + i);
        }
        most.then("order(0, 0, 0, 0) = -3", "count(7) = 28", "count(8) = 8", "count(6) = 20");
    }

    private static void sell() {
        Calls.of("17: sell", "sell(0, 0) = -1", "vat(0, 10) = 0", "weigh(0, 1000) = 1000", "lot(0, 200) = 0",
            "lot(0, 200) = 1", "order(2350, 0, 0, 150) = 0", "order(2349, 0, 0, 0) = 1",
            "order(2500, 151, 0, 0) = 2", "dip(0, 0) = 500", "sell(0, 0) = -2", "hang(0, 0) = 1",
            "sell(0, 3) = -1", "sell(2, 0) = -1", "sell(-1, 0) = -1", "sell(0, -1) = -1", "sell(0, 1) = -2",
            "sell(0, 2) = -2", "count(6) = 0", "count(10) = 4", "sell(0, 0) = 200", "orderOf(0, 4) = 1",
            "lotOf(0, 8) = 0", "lotOf(0, 5) = 0", "count(6) = 1", "count(2) = 1", "count(8) = 2",
            "sell(0, 0) = -2", "sell(0, 3) = -1", "dip(1, 0) = 250", "set(4, 2000) = 150", "hang(1, 0) = 1",
            "sell(1, 0) = -2", "sell(1, 2) = 200", "lotOf(1, 8) = 2", "orderOf(2, 4) = 1", "orderOf(1, 4) = 0");
        Calls.of("17: a spoiled lot does not fit", "vat(0, 10) = 0", "weigh(0, 200) = 200", "lot(0, 200) = 0",
            "set(3, 499) = 8000", "order(500, 0, 0, 0) = 0", "dip(0, 0) = 100", "lotOf(0, 6) = 1",
            "hang(0, 0) = 1", "sell(0, 0) = -2", "orderOf(0, 5) = 0", "orderOf(0, 6) = 0", "undo() = 3",
            "undo() = 2", "set(3, 500) = 499", "dip(0, 0) = 100", "hang(0, 0) = 1", "sell(0, 0) = 200");
        Calls.of("17: the bound at both ends", "vat(0, 10) = 0", "weigh(0, 1000) = 1000", "lot(0, 200) = 0",
            "dip(0, 0) = 500", "hang(0, 0) = 1", "set(4, 0) = 150", "order(2501, 0, 0, 0) = 0",
            "order(2499, 0, 0, 0) = 1", "order(2500, 0, 0, 0) = 2", "sell(0, 0) = -2", "sell(0, 1) = -2",
            "sell(0, 2) = 200");
    }

    private static void orderOf() {
        Calls.of("18: orderOf", "orderOf(0, 0) = -1", "order(100, 200, 300, 400) = 0", "orderOf(0, 0) = 100",
            "orderOf(0, 1) = 200", "orderOf(0, 2) = 300", "orderOf(0, 3) = 400", "orderOf(0, 4) = 0",
            "orderOf(0, 5) = 0", "orderOf(0, 6) = -4", "orderOf(0, 7) = -1", "orderOf(0, -1) = -1",
            "orderOf(1, 0) = -1", "orderOf(-1, 0) = -1", "orderOf(1, 6) = -1", "count(10) = 1",
            "lot(0, 100) = 0", "orderOf(0, 6) = 0", "orderOf(0, 5) = 0", "set(4, 400) = 150",
            "orderOf(0, 5) = 1", "set(4, 399) = 400", "orderOf(0, 5) = 0");
        Calls.of("18: the nearest lot", "vat(0, 10) = 0", "vat(1, 10) = 1", "weigh(0, 1000) = 1000",
            "weigh(1, 1000) = 1000", "lot(0, 200) = 0", "lot(0, 200) = 1", "lot(0, 200) = 2", "lot(0, 200) = 3",
            "dip(1, 0) = 500", "dip(2, 1) = 500", "order(1250, 1250, 0, 0) = 0", "orderOf(0, 6) = 0",
            "order(2500, 1, 0, 0) = 1", "orderOf(1, 6) = 1", "order(0, 1251, 0, 0) = 2", "orderOf(2, 6) = 2",
            "order(0, 1250, 0, 0) = 3", "orderOf(3, 6) = 0", "orderOf(1, 5) = 1", "order(1, 0, 0, 0) = 4",
            "orderOf(4, 5) = 2", "hang(0, 0) = 1", "orderOf(4, 5) = 2", "sell(0, 4) = 200", "orderOf(4, 5) = 1",
            "orderOf(4, 6) = 3", "orderOf(3, 6) = 2", "orderOf(4, 4) = 1", "orderOf(3, 4) = 0");
    }

    private static void match() {
        Calls.of("19: match", "match(0, 0) = -1", "vat(0, 10) = 0", "vat(3, 10) = 1", "weigh(0, 1000) = 1000",
            "weigh(1, 60) = 60", "lot(0, 200) = 0", "lot(1, 100) = 1", "match(0, 1) = 1", "match(0, 0) = 1",
            "match(0, 2) = -1", "match(2, 0) = -1", "match(-1, 0) = -1", "match(0, -1) = -1", "dip(0, 1) = 30",
            "shade(0, 3) = 150", "match(0, 1) = 1", "match(1, 0) = 1", "set(4, 149) = 150", "match(0, 1) = 0",
            "match(1, 0) = 0", "set(4, 150) = 149", "dip(0, 0) = 500", "match(0, 1) = 0", "count(10) = 4");
        Calls.of("19: spoiled and sold ones", "lot(0, 100) = 0", "lot(0, 100) = 1", "vat(0, 10) = 0",
            "weigh(0, 60) = 60", "set(3, 100) = 8000", "dip(0, 0) = 20", "lotOf(0, 6) = 1", "match(0, 1) = 0",
            "set(4, 200) = 150", "match(0, 1) = 1", "order(0, 0, 0, 0) = 0", "hang(1, 0) = 1",
            "sell(1, 0) = 100", "match(1, 0) = 1");
    }

    private static void alike() {
        Calls.of("20: alike", "alike(-1) = -1", "alike(4) = -1", "alike(3) = 0", "vat(0, 10) = 0",
            "weigh(0, 60) = 60", "lot(0, 200) = 0", "lot(0, 200) = 1", "lot(0, 200) = 2", "alike(0) = 3",
            "dip(0, 0) = 30", "shade(0, 0) = 150", "alike(0) = 3", "weigh(0, 31) = 61", "dip(1, 0) = 30",
            "dip(1, 0) = 15", "shade(1, 0) = 225", "alike(0) = 2", "set(4, 74) = 150", "alike(0) = 1",
            "set(4, 75) = 74", "alike(0) = 2", "set(4, 225) = 75", "alike(0) = 3", "alike(1) = 3",
            "order(0, 0, 0, 0) = 0", "hang(2, 0) = 1", "alike(0) = 3", "sell(2, 0) = 200", "alike(0) = 2",
            "count(10) = 4");
        Calls.of("20: without sold ones", "lot(0, 100) = 0", "lot(0, 100) = 1", "lot(0, 100) = 2",
            "order(0, 0, 0, 0) = 0", "hang(1, 0) = 1", "alike(3) = 3", "sell(1, 0) = 100", "alike(3) = 2");
        Calls.of("20: not a chain", "vat(0, 10) = 0", "weigh(0, 200) = 200", "lot(0, 200) = 0",
            "lot(0, 200) = 1", "lot(0, 200) = 2", "dip(1, 0) = 100", "weigh(0, 100) = 200", "dip(2, 0) = 100",
            "dip(2, 0) = 50", "dip(2, 0) = 25", "dip(2, 0) = 12", "dip(2, 0) = 6", "shade(2, 0) = 965",
            "set(4, 500) = 150", "alike(0) = 2", "set(4, 964) = 500", "alike(0) = 2", "set(4, 965) = 964",
            "alike(0) = 3");
    }

    private static void plan() {
        Calls.of("21: no dips", "plan(0, 0, -1) = -1", "lot(0, 200) = 0", "plan(0, 0, -1) = -1",
            "order(150, 0, 0, 0) = 0", "order(151, 0, 0, 0) = 1", "plan(0, 0, -1) = 0", "plan(0, 0, 0) = -4",
            "plan(0, 0, -2) = -1", "plan(0, 2, -1) = -1", "plan(1, 0, -1) = -1", "plan(-1, 0, -1) = -1",
            "plan(0, -1, -1) = -1", "plan(0, 1, -1) = -4", "plan(0, 1, 0) = -4", "hang(0, 0) = 1",
            "plan(0, 0, -1) = 0", "sell(0, 0) = 200", "plan(0, 0, -1) = -2", "plan(0, 0, 7) = -2",
            "plan(0, 0, -2) = -1", "plan(0, 2, -1) = -1");
        Calls.of("21: the fewest, then the lower numbers", "vat(1, 10) = 0", "vat(0, 10) = 1",
            "vat(0, 10) = 2", "vat(1, 10) = 3", "weigh(0, 1000) = 1000", "weigh(1, 1000) = 1000",
            "weigh(2, 1000) = 1000", "weigh(3, 1000) = 1000", "lot(0, 200) = 0", "set(4, 0) = 150",
            "order(2500, 0, 0, 0) = 0", "plan(0, 0, -1) = 1", "plan(0, 0, 0) = 1", "plan(0, 0, 1) = -4",
            "order(5000, 0, 0, 0) = 1", "plan(0, 1, -1) = 2", "plan(0, 1, 0) = 1", "plan(0, 1, 1) = 2",
            "order(2500, 2500, 0, 0) = 2", "plan(0, 2, -1) = 2", "plan(0, 2, 0) = 0", "plan(0, 2, 1) = 1",
            "order(3750, 2500, 0, 0) = 3", "plan(0, 3, -1) = 3", "plan(0, 3, 0) = 0", "plan(0, 3, 1) = 1",
            "plan(0, 3, 2) = 1", "plan(0, 3, 3) = -4", "order(5000, 5000, 0, 0) = 4", "set(3, 10000) = 8000",
            "plan(0, 4, -1) = 4", "plan(0, 4, 0) = 0", "plan(0, 4, 1) = 1", "plan(0, 4, 2) = 2",
            "plan(0, 4, 3) = 3", "plan(0, 4, 4) = -4", "plan(0, 4, 2147483647) = -4", "set(3, 9999) = 10000",
            "plan(0, 4, -1) = -4", "order(4843, 0, 0, 0) = 5", "plan(0, 5, -1) = -4", "set(4, 1) = 0",
            "plan(0, 5, -1) = -4", "count(9) = 0", "vatOf(1, 2) = 1000", "vatOf(1, 3) = 0", "lotOf(0, 9) = 0");
        Calls.of("21: at most four dips", "vat(0, 10) = 0", "weigh(0, 3200) = 3200", "lot(0, 200) = 0",
            "set(4, 0) = 150", "set(3, 20000) = 8000", "order(15000, 0, 0, 0) = 0", "order(15500, 0, 0, 0) = 1",
            "plan(0, 0, -1) = 4", "plan(0, 0, 0) = 0", "plan(0, 0, 3) = 0", "plan(0, 0, 4) = -4",
            "plan(0, 1, -1) = -4", "dip(0, 0) = 1600", "plan(0, 1, -1) = 4", "plan(0, 0, -1) = 3");
        Calls.of("21: each vat has dye then", "vat(0, 10) = 0", "vat(0, 10) = 1", "weigh(0, 1) = 1",
            "lot(0, 200) = 0", "order(5, 0, 0, 0) = 0", "set(4, 0) = 150", "plan(0, 0, -1) = -4",
            "set(0, 1) = 20", "weigh(0, 1) = 2", "plan(0, 0, -1) = 1", "weigh(1, 2) = 2", "order(10, 0, 0, 0) = 1",
            "plan(0, 1, -1) = 2", "plan(0, 1, 0) = 0", "plan(0, 1, 1) = 1");
        Calls.of("21: served orders too", "lot(0, 200) = 0", "lot(0, 200) = 1", "order(0, 0, 0, 0) = 0",
            "hang(0, 0) = 1", "sell(0, 0) = 200", "plan(1, 0, -1) = 0");
    }

    private static void planOfSpoiled() {
        Calls.of("21: a plan saves a spoiled lot", "vat(3, 10) = 0", "vat(0, 10) = 1", "weigh(0, 1600) = 1600",
            "weigh(1, 400) = 400", "lot(0, 200) = 0", "set(3, 999) = 8000", "dip(0, 1) = 200",
            "lotOf(0, 6) = 1", "order(1000, 0, 0, 4000) = 0", "order(1000, 0, 0, 0) = 1",
            "plan(0, 0, -1) = 1", "plan(0, 0, 0) = 0", "plan(0, 1, -1) = -4", "set(6, 4001) = 2000",
            "plan(0, 0, -1) = -4", "lotOf(0, 6) = 1");
        Calls.of("21: a vat of one grain, and a dry one", "vat(3, 10) = 0", "weigh(0, 1600) = 1600",
            "lot(0, 200) = 0", "dip(0, 0) = 800", "drain(0) = 800", "vat(0, 10) = 1", "weigh(1, 200) = 200",
            "set(3, 100) = 8000", "dip(0, 1) = 100", "lotOf(0, 6) = 1", "order(500, 0, 0, 4000) = 0",
            "plan(0, 0, -1) = -4", "weigh(0, 1) = 1", "plan(0, 0, -1) = 1", "plan(0, 0, 0) = 0",
            "dip(0, 0) = 0", "lotOf(0, 6) = 0", "lotOf(0, 7) = 1", "plan(0, 0, -1) = 0");
        Calls.of("21: dirt of the dips of a plan", "vat(0, 10) = 0", "weigh(0, 3200) = 3200",
            "lot(0, 200) = 0", "set(1, 50) = 5", "set(2, 10) = 200", "set(4, 0) = 150",
            "order(12000, 0, 0, 0) = 0", "set(3, 20000) = 8000", "plan(0, 0, -1) = 2",
            "order(14000, 0, 0, 0) = 1", "plan(0, 1, -1) = -4", "set(1, 25) = 50", "plan(0, 1, -1) = 3");
    }

    private static void takes() {
        Calls.of("22: takes", "takes(0, 0, 1) = -1", "vat(0, 10) = 0", "lot(0, 200) = 0", "takes(0, 0, 0) = -1",
            "takes(0, 0, 31) = -1", "takes(0, 0, -1) = -1", "takes(1, 0, 1) = -1", "takes(-1, 0, 1) = -1",
            "takes(0, 1, 1) = -1", "takes(0, -1, 1) = -1", "takes(0, 0, 1) = 0", "takes(0, 0, 30) = 0",
            "weigh(0, 1000) = 1000", "takes(0, 0, 1) = 500", "takes(0, 0, 2) = 750", "takes(0, 0, 3) = 875",
            "takes(0, 0, 30) = 999", "vatOf(0, 2) = 1000", "lotOf(0, 9) = 0", "hang(0, 0) = 1",
            "takes(0, 0, 2) = 750", "order(0, 0, 0, 0) = 0", "sell(0, 0) = 200", "takes(0, 0, 1) = -2",
            "takes(0, 0, 31) = -1", "takes(0, 1, 1) = -1", "lot(1, 300) = 1", "takes(1, 0, 1) = 750",
            "set(0, 60) = 20", "takes(1, 0, 1) = 500", "takes(1, 0, 4) = 937", "count(10) = 4");
        Calls.of("22: thirty times", "vat(0, 10) = 0", "weigh(0, 10000) = 10000", "lot(0, 100) = 0",
            "set(0, 100) = 20", "takes(0, 0, 1) = 909", "takes(0, 0, 30) = 9422", "takes(0, 0, 29) = 9365");
    }
}
