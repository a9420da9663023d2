/**
 * Every error of every call, also where several errors apply to it: INVALID_ARGUMENT (-1) rather
 * than NOT_POSSIBLE (-2), this rather than LIMIT_REACHED (-3), this rather than NOT_FOUND (-4); and
 * a call that returns an error changes nothing. Promises 2 to 30.
 */
public final class RefusedTest {
    private static final String[] OUT = {"-1", "-2147483648", "2147483647"};

    public static void main(String[] args) {
        emptyHouse();
        fullVats();
        fullLots();
        fullRacks();
        fullOrders();
        fullQuestions();
        fullAccounts();
        fullText();
        faultyTexts();
        errorsInTexts();
        wrapAround();
        Calls.end();
    }

    private static void emptyHouse() {
        Refusals house = new Refusals("an empty house");
        for (String call : new String[] {"drain(#)", "vatOf(#, 0)", "vatOf(#, 4)", "rinse(#)", "take(#)",
            "weigh(#, 1)", "weigh(#, 0)", "dip(#, 0)", "dip(0, #)", "hang(#, 0)", "hang(#, 2)", "lotOf(#, 0)",
            "lotOf(#, 8)", "shade(#, 0)", "shadeBits(#, 0)", "sell(#, 0)", "sell(0, #)", "orderOf(#, 0)",
            "orderOf(#, 6)", "match(#, 0)", "match(0, #)", "plan(#, 0, -1)", "plan(0, #, 0)", "takes(#, 0, 1)",
            "takes(0, #, 30)"}) {
            for (String number : new String[] {"0", "1", "-1", "2147483647", "-2147483648"}) {
                house.refuse(call.replace("#", number) + " = -1");
            }
        }
        house.refuse("undo() = -2", "vatAt(0) = -4", "vatAt(2147483647) = -4", "vatAt(-1) = -1", "meanBits(0) = -4",
            "meanBits(3) = -4", "meanBits(4) = -1", "meanBits(-1) = -1", "alike(4) = -1", "alike(-1) = -1",
            "fault(0) = -4", "fault(1) = -4", "fault(2) = -4", "fault(3) = -1", "fault(-1) = -1");
    }

    /** The call with each number that is out of range in the place of #, be the rest wrong or not. */
    private static void invalid(Refusals house, String call, String... numbers) {
        for (String number : OUT) {
            house.refuse(call.replace("#", number) + " = -1");
        }
        for (String number : numbers) {
            house.refuse(call.replace("#", number) + " = -1");
        }
    }

    private static void fullVats() {
        Refusals house = new Refusals("a full house", Stages.full());
        house.refuse("vat(0, 10) = -3", "vat(3, 1000) = -3");
        invalid(house, "vat(#, 10)", "4");
        invalid(house, "vat(0, #)", "9", "1001", "0");
        house.refuse("weigh(1, 1) = -3", "weigh(5, 1) = -3", "weigh(5, 100000) = -3");
        invalid(house, "weigh(#, 1)", "6");
        invalid(house, "weigh(0, #)", "0", "100001");
        invalid(house, "weigh(1, #)", "0", "100001");
        invalid(house, "drain(#)", "6");
        invalid(house, "vatOf(#, 0)", "6");
        invalid(house, "vatOf(5, #)", "5");
        house.refuse("vatAt(-1) = -1", "vatAt(6) = -4", "vatAt(2147483647) = -4", "vatAt(-2147483648) = -1");
    }

    private static void fullLots() {
        Refusals house = new Refusals("a full house", Stages.full());
        house.refuse("lot(0, 100) = -3", "lot(1, 5000) = -3");
        invalid(house, "lot(#, 100)", "2");
        invalid(house, "lot(1, #)", "99", "5001", "0");
        house.refuse("dip(18, 0) = -2", "dip(0, 0) = -2", "dip(8, 5) = -2", "dip(18, 5) = -2", "dip(0, 5) = -2");
        invalid(house, "dip(#, 0)", "20");
        invalid(house, "dip(#, 5)", "20");
        invalid(house, "dip(8, #)", "6");
        invalid(house, "dip(18, #)", "6");
        invalid(house, "dip(0, #)", "6");
        house.refuse("rinse(18) = -2", "rinse(0) = -2", "rinse(5) = -2");
        invalid(house, "rinse(#)", "20");
        invalid(house, "lotOf(#, 8)", "20");
        invalid(house, "lotOf(8, #)", "10");
        house.refuse("lotOf(8, 8) = -4", "lotOf(0, 8) = -4");
        invalid(house, "shade(#, 0)", "20");
        invalid(house, "shade(0, #)", "4");
        invalid(house, "shadeBits(#, 0)", "20");
        invalid(house, "shadeBits(0, #)", "4");
        invalid(house, "meanBits(#)", "4");
    }

    private static void fullRacks() {
        Refusals house = new Refusals("a full house", Stages.full());
        house.refuse("hang(8, 0) = -3", "hang(9, 1) = -3", "hang(8, 1) = -2", "hang(9, 0) = -2", "hang(0, 0) = -2",
            "hang(1, 1) = -2", "hang(0, 1) = -2", "hang(18, 0) = -2", "hang(18, 1) = -2");
        invalid(house, "hang(#, 0)", "20");
        invalid(house, "hang(8, #)", "2");
        invalid(house, "hang(0, #)", "2");
        invalid(house, "hang(18, #)", "2");
        house.refuse("take(18) = -2", "take(8) = -2", "take(9) = -2");
        invalid(house, "take(#)", "20");
    }

    private static void fullOrders() {
        Refusals house = new Refusals("a full house", Stages.full());
        house.refuse("order(0, 0, 0, 0) = -3", "order(20000, 20000, 20000, 20000) = -3");
        invalid(house, "order(#, 0, 0, 0)", "20001");
        invalid(house, "order(0, #, 0, 0)", "20001");
        invalid(house, "order(0, 0, #, 0)", "20001");
        invalid(house, "order(0, 0, 0, #)", "20001");
        house.refuse("sell(18, 1) = -2", "sell(18, 0) = -2", "sell(8, 1) = -2", "sell(0, 8) = -2", "sell(0, 0) = -2",
            "sell(3, 1) = -2", "sell(8, 8) = -2");
        invalid(house, "sell(#, 1)", "20");
        invalid(house, "sell(#, 0)", "20");
        invalid(house, "sell(0, #)", "9");
        invalid(house, "sell(18, #)", "9");
        invalid(house, "sell(8, #)", "9");
    }

    private static void fullQuestions() {
        Refusals house = new Refusals("a full house", Stages.full());
        invalid(house, "orderOf(#, 0)", "9");
        invalid(house, "orderOf(1, #)", "7");
        invalid(house, "match(#, 0)", "20");
        invalid(house, "match(0, #)", "20");
        invalid(house, "match(18, #)", "20");
        invalid(house, "alike(#)", "4");
        house.refuse("plan(18, 1, -1) = -2", "plan(18, 1, 0) = -2", "plan(18, 8, -1) = -2", "plan(18, 1, 99) = -2",
            "plan(0, 8, -1) = -4", "plan(0, 8, 0) = -4", "plan(0, 1, 0) = -4", "plan(0, 1, 2147483647) = -4",
            "plan(0, 1, -2) = -1", "plan(0, 8, -2) = -1", "plan(18, 1, -2) = -1", "plan(18, 1, -2147483648) = -1");
        invalid(house, "plan(#, 1, -1)", "20");
        invalid(house, "plan(0, #, 0)", "9");
        invalid(house, "plan(18, #, -1)", "9");
        house.refuse("takes(18, 0, 1) = -2", "takes(18, 5, 30) = -2");
        invalid(house, "takes(#, 0, 1)", "20");
        invalid(house, "takes(0, #, 1)", "6");
        invalid(house, "takes(18, #, 1)", "6");
        invalid(house, "takes(0, 0, #)", "0", "31");
        invalid(house, "takes(18, 0, #)", "0", "31");
    }

    private static void fullAccounts() {
        Refusals house = new Refusals("a full house", Stages.full());
        invalid(house, "account(#, 0)", "4");
        invalid(house, "account(0, #)", "6");
        invalid(house, "count(#)", "12", "19", "27");
        invalid(house, "set(#, 50)", "7");
        int[][] ranges = {{1, 100}, {0, 50}, {10, 1000}, {100, 20000}, {0, 2000}, {0, 50}, {0, 20000}};
        for (int what = 0; what < ranges.length; what++) {
            house.refuse("set(" + what + ", " + (ranges[what][0] - 1) + ") = -1",
                "set(" + what + ", " + (ranges[what][1] + 1) + ") = -1");
        }
        house.refuse("set(0, 2147483647) = -1", "set(6, -2147483648) = -1");
    }

    private static void fullText() {
        Refusals house = new Refusals("a full house", Stages.full());
        house.refuse("type(32) = -3", "type(126) = -3", "type(59) = -3", "fault(0) = -4", "fault(1) = -4",
            "fault(2) = -4");
        invalid(house, "type(#)", "31", "127", "65595", "59000000");
        invalid(house, "fault(#)", "3");
        new Refusals("a house with room", Stages.small("d0,0;r0;")).refuse("type(31) = -1", "type(127) = -1",
            "type(-1) = -1", "type(65636) = -1", "play() = -2", "fault(3) = -1", "set(0, 0) = -1");
        new Refusals("an empty history", "vat(0, 10) = 0", "undo() = 0", "text r0;").refuse("undo() = -2",
            "play() = -2");
    }

    /** What a text does ahead of its fault is not done. */
    private static void faultyTexts() {
        String[] texts = {"d8,0;r8;e0;h8,0;", "t0;h8,0;s8,2;s8,2;", "t0;t1;h8,0;h10,0;", "e0;e1;e2;x", "d8,0;d9,3;d9,5;",
            "h8,", "t0;r0;h0,0;s0,1;d8,4;r8;t8;", "d8,4;d8,4;d8,4;d8,4;d8,4;d8,4;d8,4;d8,4;d8,4;d8,4;d8,4;d8,4",
            "x"};
        for (String text : texts) {
            String[] stage = Stages.full();
            stage[stage.length - 1] = "text " + text;
            new Refusals("the text " + text, stage).refuse("play() = -2", "fault(3) = -1", "fault(-1) = -1");
        }
        String[] small = {"d0,0;d0,1;", "d0,0;h0,0;r0;", "e0;r1;", "r0;r0;r0"};
        for (String text : small) {
            new Refusals("the text " + text, Stages.small(text)).refuse("play() = -2");
        }
    }

    /** Where several errors apply to an order of work, its cause is the one that the call returns. */
    private static void errorsInTexts() {
        String[][] causes = {{"h8,0;", "-3"}, {"h8,1;", "-2"}, {"h8,2;", "-1"}, {"h18,0;", "-2"}, {"h18,2;", "-1"},
            {"h20,0;", "-1"}, {"h0,0;", "-2"}, {"h9,1;", "-3"}, {"d18,0;", "-2"}, {"d18,6;", "-1"}, {"d0,5;", "-2"},
            {"d8,5;", "-2"}, {"d20,5;", "-1"}, {"r18;", "-2"}, {"r0;", "-2"}, {"r20;", "-1"}, {"t8;", "-2"},
            {"t20;", "-1"}, {"e6;", "-1"}, {"s18,1;", "-2"}, {"s18,9;", "-1"}, {"s0,0;", "-2"}, {"s0,8;", "-2"},
            {"s8,1;", "-2"}, {"s8,9;", "-1"}, {"s20,1;", "-1"}, {"s99,99;", "-1"}};
        for (String[] cause : causes) {
            String[] stage = Stages.full();
            stage[stage.length - 1] = "text t0;h0,0;" + cause[0] + "x";
            Calls.of("29: the cause of " + cause[0], stage).then("fault(0) = 8", "fault(1) = 2",
                "fault(2) = " + cause[1], "play() = -2");
        }
    }

    /** Numbers whose last 8, 16 or 31 bits are those of a number that is in range, for each argument. */
    private static void wrapAround() {
        Object[][] ranges = {{"vat(#, 10)", 0, 3}, {"vat(0, #)", 10, 1000}, {"weigh(#, 1)", 0, 0},
            {"weigh(0, #)", 1, 100000}, {"drain(#)", 0, 0}, {"vatOf(#, 0)", 0, 0}, {"vatOf(0, #)", 0, 4},
            {"lot(#, 100)", 0, 1}, {"lot(0, #)", 100, 5000}, {"dip(#, 0)", 0, 0}, {"dip(0, #)", 0, 0}, {"rinse(#)", 0, 0},
            {"hang(#, 0)", 0, 0}, {"hang(0, #)", 0, 1}, {"take(#)", 0, 0}, {"lotOf(#, 0)", 0, 0}, {"lotOf(0, #)", 0, 9},
            {"shade(#, 0)", 0, 0}, {"shade(0, #)", 0, 3}, {"shadeBits(#, 0)", 0, 0}, {"shadeBits(0, #)", 0, 3},
            {"meanBits(#)", 0, 3}, {"order(#, 0, 0, 0)", 0, 20000}, {"order(0, #, 0, 0)", 0, 20000},
            {"order(0, 0, #, 0)", 0, 20000}, {"order(0, 0, 0, #)", 0, 20000}, {"sell(#, 0)", 0, 0}, {"sell(0, #)", 0, 0},
            {"orderOf(#, 0)", 0, 0}, {"orderOf(0, #)", 0, 6}, {"match(#, 0)", 0, 0}, {"match(0, #)", 0, 0},
            {"alike(#)", 0, 3}, {"plan(#, 0, -1)", 0, 0}, {"plan(0, #, -1)", 0, 0}, {"takes(#, 0, 1)", 0, 0},
            {"takes(0, #, 1)", 0, 0}, {"takes(0, 0, #)", 1, 30}, {"account(#, 0)", 0, 3}, {"account(0, #)", 0, 5},
            {"count(#)", 0, 26}, {"set(#, 20)", 0, 6}, {"set(0, #)", 1, 100}, {"set(6, #)", 0, 20000},
            {"type(#)", 32, 126}, {"fault(#)", 0, 2}};
        Refusals house = new Refusals("numbers that wrap around", "vat(0, 10) = 0", "weigh(0, 900) = 900",
            "lot(0, 200) = 0", "order(0, 0, 0, 0) = 0", "text r0;");
        for (Object[] range : ranges) {
            int least = (Integer) range[1];
            int most = (Integer) range[2];
            int[] numbers = {least - 256, least - 65536, most + 256, most + 65536, least ^ Integer.MIN_VALUE,
                most ^ Integer.MIN_VALUE};
            for (int number : numbers) {
                house.refuse(((String) range[0]).replace("#", "" + number) + " = -1");
            }
        }
    }
}
