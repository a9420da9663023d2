/** The boundaries of vats, each sentence with a test of its own. Promises 1 to 6, and 23 for drained dye. */
public final class VatBoundsTest {
    private static final int[] OUT = {-1, Integer.MIN_VALUE, Integer.MAX_VALUE};

    public static void main(String[] args) {
        emptyHouse();
        dyes();
        litres();
        sixVats();
        blankVats();
        vatNumbers();
        grains();
        oneMillion();
        oneMillionOfEach();
        weighedInAll();
        draining();
        dirtThatSpoils();
        whatOfVats();
        positions();
        strength();
        ties();
        Calls.end();
    }

    private static void emptyHouse() {
        Calls house = Calls.of("1: a house without vats, lots and orders");
        for (int what = 0; what <= 11; what++) {
            house.then("count(" + what + ") = 0");
        }
        house.then("vatAt(0) = -4", "vatOf(0, 0) = -1", "lotOf(0, 0) = -1", "orderOf(0, 0) = -1", "alike(0) = 0",
            "meanBits(0) = -4", "undo() = -2", "fault(0) = -4", "clearText() = 0", "play() = 0", "undo() = 0",
            "vat(0, 10) = 0", "lot(0, 100) = 0", "order(0, 0, 0, 0) = 0");
    }

    private static void dyes() {
        Calls house = Calls.of("2: dye: 0 to 3", "vat(-1, 50) = -1", "vat(4, 50) = -1", "count(0) = 0", "count(10) = 0",
            "vat(0, 50) = 0", "vat(3, 50) = 1", "vat(1, 50) = 2", "vat(2, 50) = 3", "vatOf(0, 0) = 0",
            "vatOf(1, 0) = 3", "vatOf(2, 0) = 1", "vatOf(3, 0) = 2");
        for (int dye : OUT) {
            house.then("vat(" + dye + ", 50) = -1");
        }
        house.then("count(0) = 4");
    }

    private static void litres() {
        Calls house = Calls.of("2: litres: 10 to 1000", "vat(1, 9) = -1", "vat(1, 10) = 0", "vat(1, 11) = 1",
            "vat(1, 999) = 2", "vat(1, 1000) = 3", "vat(1, 1001) = -1", "vat(1, 0) = -1", "vat(1, -10) = -1",
            "vatOf(0, 1) = 10", "vatOf(1, 1) = 11", "vatOf(2, 1) = 999", "vatOf(3, 1) = 1000");
        for (int litres : OUT) {
            house.then("vat(1, " + litres + ") = -1");
        }
        house.then("count(0) = 4", "count(10) = 4", "undo() = 3", "undo() = 2", "undo() = 1", "count(0) = 1");
    }

    private static void sixVats() {
        Calls house = Calls.of("2: at most 6 vats, numbered from 0", "vat(0, 10) = 0", "vat(0, 10) = 1",
            "vat(0, 10) = 2", "vat(0, 10) = 3", "vat(0, 10) = 4", "count(0) = 5", "vat(0, 10) = 5", "count(0) = 6",
            "vat(0, 10) = -3", "vat(3, 1000) = -3", "count(0) = 6", "vatOf(5, 1) = 10", "vatOf(6, 1) = -1",
            "drain(5) = 0", "vat(0, 10) = -3");
        house.then("undo() = 3", "undo() = 2", "count(0) = 5", "vatOf(5, 1) = -1", "vat(2, 77) = 5",
            "vatOf(5, 1) = 77", "vat(2, 77) = -3");
    }

    private static void blankVats() {
        Calls.of("2: grains and dirt are 0 at first", "vat(0, 10) = 0", "vatOf(0, 2) = 0", "vatOf(0, 3) = 0",
            "vatOf(0, 4) = 0", "vatAt(0) = 0", "account(0, 1) = 0");
        Calls.of("2: 0 also where a vat was that was taken back", "lot(0, 1000) = 0", "vat(1, 99) = 0",
            "weigh(0, 500) = 500", "dip(0, 0) = 167", "vatOf(0, 3) = 5", "undo() = 3", "undo() = 2", "undo() = 1",
            "vat(2, 10) = 0", "vatOf(0, 0) = 2", "vatOf(0, 1) = 10", "vatOf(0, 2) = 0", "vatOf(0, 3) = 0",
            "account(1, 0) = 0", "dip(0, 0) = -2");
    }

    private static void vatNumbers() {
        String[] calls = {"weigh(#, 1)", "drain(#)", "vatOf(#, 2)", "dip(0, #)", "takes(0, #, 1)"};
        for (String call : calls) {
            Calls house = Calls.of("3 to 22: number of the vat: " + call, call.replace("#", "0") + " = -1",
                "lot(0, 200) = 0", call.replace("#", "0") + " = -1", "vat(0, 10) = 0", call.replace("#", "1") + " = -1",
                "vat(1, 10) = 1", "weigh(0, 40) = 40", "weigh(1, 60) = 60", call.replace("#", "2") + " = -1",
                "count(10) = 4");
            for (int number : OUT) {
                house.then(call.replace("#", "" + number) + " = -1");
            }
            house.then("vatOf(0, 2) = 40", "vatOf(1, 2) = 60", "lotOf(0, 9) = 0");
        }
        Calls.of("3: the last number", "vat(0, 10) = 0", "vat(1, 10) = 1", "weigh(1, 60) = 60", "vatOf(1, 2) = 60",
            "lot(0, 200) = 0", "takes(0, 1, 1) = 30", "dip(0, 1) = 30", "drain(1) = 30", "vatOf(1, 2) = 0");
    }

    private static void grains() {
        Calls house = Calls.of("3: grains: 1 to 100000", "vat(2, 10) = 0", "weigh(0, 0) = -1", "weigh(0, 100001) = -1",
            "vatOf(0, 2) = 0", "account(2, 0) = 0", "count(10) = 1", "weigh(0, 1) = 1", "weigh(0, 100000) = 100001",
            "weigh(0, 2) = 100003", "weigh(0, 99999) = 200002");
        for (int grains : OUT) {
            house.then("weigh(0, " + grains + ") = -1");
        }
        house.then("vatOf(0, 2) = 200002", "account(2, 0) = 200002");
    }

    private static Calls weighed(String title, int dye, int hundredThousands) {
        Calls house = Calls.of(title, "vat(" + dye + ", 10) = 0", "vat(" + dye + ", 20) = 1",
            "vat(" + (dye + 1) % 4 + ", 10) = 2");
        for (int i = 1; i <= hundredThousands; i++) {
            house.then("weigh(0, 100000) = " + 100000 * i);
        }
        return house;
    }

    private static void oneMillion() {
        weighed("3: LIMIT_REACHED if more than 1000000 would have been weighed in", 0, 9).then(
            "weigh(0, 99999) = 999999", "weigh(0, 2) = -3", "weigh(0, 100000) = -3", "vatOf(0, 2) = 999999",
            "weigh(0, 1) = 1000000", "weigh(0, 1) = -3", "account(0, 0) = 1000000", "vatOf(0, 2) = 1000000");
        weighed("3: 1000000 at once", 0, 9).then("weigh(0, 100000) = 1000000", "weigh(0, 1) = -3", "count(10) = 4");
        weighed("3: 1000001 at once", 0, 9).then("weigh(0, 1) = 900001", "weigh(0, 100000) = -3",
            "weigh(0, 99999) = 1000000");
    }

    private static void oneMillionOfEach() {
        for (int dye = 0; dye < 4; dye++) {
            weighed("3: 1000000 of this dye", dye, 10).then("weigh(1, 1) = -3", "weigh(2, 100000) = 100000",
                "account(" + dye + ", 0) = 1000000", "account(" + (dye + 1) % 4 + ", 0) = 100000");
        }
    }

    private static void weighedInAll() {
        weighed("3: in all, what is drained, dipped or sold too", 1, 10).then("drain(0) = 1000000", "weigh(0, 1) = -3",
            "weigh(1, 1) = -3", "undo() = 3", "undo() = 2", "vatOf(0, 2) = 900000", "weigh(1, 50000) = 50000",
            "weigh(0, 50000) = 950000", "weigh(1, 1) = -3", "lot(0, 200) = 0", "dip(0, 0) = 475000", "rinse(0) = 47500",
            "weigh(1, 1) = -3");
        Calls.of("3: returns the grains in the vat then", "vat(0, 10) = 0", "vat(0, 10) = 1", "weigh(0, 70) = 70",
            "weigh(1, 5) = 5", "weigh(0, 3) = 73", "lot(0, 200) = 0", "dip(0, 0) = 36", "weigh(0, 1) = 38",
            "drain(0) = 38", "weigh(0, 9) = 9");
    }

    private static void draining() {
        Calls.of("4: all its dye comes into the waste, and its dirt becomes 0", "vat(0, 10) = 0", "vat(0, 10) = 1",
            "weigh(0, 801) = 801", "weigh(1, 50) = 50", "lot(0, 200) = 0", "dip(0, 0) = 400", "dip(0, 1) = 25",
            "vatOf(0, 3) = 1", "drain(0) = 401", "vatOf(0, 2) = 0", "vatOf(0, 3) = 0", "vatOf(0, 0) = 0",
            "vatOf(0, 1) = 10", "vatOf(1, 2) = 25", "vatOf(1, 3) = 1", "account(0, 5) = 401", "account(0, 1) = 25",
            "account(0, 0) = 851", "account(1, 5) = 0", "lotOf(0, 3) = 383", "lotOf(0, 4) = 42", "drain(0) = 0",
            "drain(1) = 25", "account(0, 5) = 426");
        Calls.of("4: of an empty vat", "vat(3, 10) = 0", "drain(0) = 0", "count(10) = 2", "drain(0) = 0", "count(10) = 3",
            "account(3, 5) = 0");
        weighed("4: of a full vat", 3, 10).then("drain(0) = 1000000", "account(3, 5) = 1000000", "account(3, 1) = 0");
    }

    private static void dirtThatSpoils() {
        Calls.of("5: 1 if its dirt would spoil a lot: above the setting 2", "vat(0, 10) = 0", "weigh(0, 1000) = 1000",
            "lot(0, 220) = 0", "set(1, 50) = 5", "dip(0, 0) = 523", "vatOf(0, 3) = 11", "set(2, 12) = 200",
            "vatOf(0, 4) = 0", "set(2, 11) = 12", "vatOf(0, 4) = 0", "set(2, 10) = 11", "vatOf(0, 4) = 1",
            "drain(0) = 477", "vatOf(0, 4) = 0", "undo() = 3", "vatOf(0, 4) = 1", "undo() = 2", "vatOf(0, 4) = 0");
        Calls.of("5: the greatest setting 2", "vat(0, 1000) = 0", "weigh(0, 100000) = 100000", "lot(0, 5000) = 0",
            "lot(0, 100) = 1", "set(1, 50) = 5", "set(2, 1000) = 200", "dip(0, 0) = 20000", "dip(0, 0) = 16000",
            "dip(0, 0) = 12800", "dip(0, 0) = 10240", "vatOf(0, 3) = 1000", "vatOf(0, 4) = 0", "set(1, 1) = 50",
            "dip(1, 0) = 203", "vatOf(0, 3) = 1001", "vatOf(0, 4) = 1");
    }

    private static void whatOfVats() {
        Calls house = Calls.of("5: what: 0 to 4", "vat(3, 12) = 0", "weigh(0, 7) = 7", "vatOf(0, -1) = -1",
            "vatOf(0, 0) = 3", "vatOf(0, 1) = 12", "vatOf(0, 2) = 7", "vatOf(0, 3) = 0", "vatOf(0, 4) = 0",
            "vatOf(0, 5) = -1");
        for (int what : OUT) {
            house.then("vatOf(0, " + what + ") = -1", "vatOf(1, " + what + ") = -1");
        }
    }

    private static void positions() {
        Calls house = Calls.of("6: INVALID_ARGUMENT if negative; NOT_FOUND if there are not so many", "vatAt(-1) = -1",
            "vatAt(0) = -4", "vatAt(2147483647) = -4", "vatAt(-2147483648) = -1");
        for (int i = 0; i < 6; i++) {
            house.then("vat(0, 10) = " + i, "vatAt(" + i + ") = " + i, "vatAt(" + (i + 1) + ") = -4", "vatAt(-1) = -1");
        }
        house.then("vatAt(2147483647) = -4", "vatAt(-2147483648) = -1");
    }

    private static void strength() {
        Calls.of("6: by grains for a litre, not by grains", "vat(0, 1000) = 0", "vat(0, 10) = 1", "vat(0, 100) = 2",
            "weigh(0, 5999) = 5999", "weigh(1, 60) = 60", "weigh(2, 700) = 700", "vatAt(0) = 2", "vatAt(1) = 1",
            "vatAt(2) = 0", "weigh(0, 1) = 6000", "vatAt(1) = 0", "vatAt(2) = 1");
        Calls.of("6: rounded down", "vat(0, 10) = 0", "vat(1, 10) = 1", "vat(2, 30) = 2", "weigh(0, 10) = 10",
            "weigh(1, 19) = 19", "weigh(2, 59) = 59", "vatAt(0) = 0", "vatAt(1) = 1", "vatAt(2) = 2",
            "weigh(1, 1) = 20", "vatAt(0) = 1", "vatAt(1) = 0", "weigh(2, 1) = 60", "vatAt(0) = 1", "vatAt(1) = 2",
            "vatAt(2) = 0", "drain(1) = 20", "vatAt(0) = 2", "vatAt(1) = 0", "vatAt(2) = 1");
    }

    private static void ties() {
        Calls.of("6: then by dirt, the least first, then by number", "vat(0, 10) = 0", "vat(0, 10) = 1", "vat(0, 10) = 2",
            "vat(0, 10) = 3", "lot(0, 200) = 0", "lot(0, 201) = 1", "weigh(0, 25) = 25", "weigh(1, 25) = 25",
            "weigh(2, 25) = 25", "dip(1, 0) = 12", "dip(0, 1) = 12", "dip(0, 2) = 12", "weigh(3, 13) = 13",
            "vatOf(0, 3) = 2", "vatOf(1, 3) = 1", "vatOf(2, 3) = 1", "vatAt(0) = 3", "vatAt(1) = 1", "vatAt(2) = 2",
            "vatAt(3) = 0", "vatAt(4) = -4", "weigh(0, 6) = 19", "vatAt(3) = 0", "weigh(0, 1) = 20", "vatAt(0) = 0",
            "vatAt(1) = 3");
    }
}
