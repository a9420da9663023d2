/** The boundaries of accounts, numbers, settings and the history, each sentence with a test of its own. Promises 23 to 26. */
public final class AccountBoundsTest {
    private static final int[] OUT = {-1, Integer.MIN_VALUE, Integer.MAX_VALUE};
    private static final int[] LEAST = {1, 0, 10, 100, 0, 0, 0};
    private static final int[] MOST = {100, 50, 1000, 20000, 2000, 50, 20000};
    private static final int[] FIRST = {20, 5, 200, 8000, 150, 10, 2000};

    public static void main(String[] args) {
        accountsOf();
        accounts();
        soldOnes();
        fullAccount();
        numbers();
        numbersOfFullHouse();
        spoiledAndDark();
        settings();
        settingNumbers();
        emptyHistory();
        fourStates();
        everyChange();
        everyError();
        everythingButTheText();
        Calls.end();
    }

    private static void accountsOf() {
        Calls house = Calls.of("23: dye: 0 to 3; what: 0 to 5", "account(-1, 0) = -1", "account(0, 0) = 0",
            "account(3, 0) = 0", "account(4, 0) = -1", "account(0, -1) = -1", "account(0, 5) = 0", "account(0, 6) = -1",
            "account(3, 5) = 0", "account(4, 6) = -1", "account(-1, -1) = -1");
        for (int out : OUT) {
            house.then("account(" + out + ", 0) = -1", "account(0, " + out + ") = -1");
        }
    }

    private static Calls accountsAre(Calls house, int dye, int... grains) {
        for (int what = 0; what < grains.length; what++) {
            house.then("account(" + dye + ", " + what + ") = " + grains[what]);
        }
        return house;
    }

    private static void accounts() {
        for (int dye = 0; dye < 4; dye++) {
            Calls house = Calls.of("23: weighed in, in vats, fixed, loose, sold, waste", "vat(" + dye + ", 10) = 0",
                "vat(" + dye + ", 10) = 1", "vat(" + (dye + 1) % 4 + ", 10) = 2", "weigh(0, 1600) = 1600",
                "weigh(1, 37) = 37", "weigh(2, 5) = 5", "lot(0, 200) = 0", "lot(1, 100) = 1");
            accountsAre(house, dye, 1637, 1637, 0, 0, 0, 0);
            accountsAre(house, (dye + 1) % 4, 5, 5, 0, 0, 0, 0);
            accountsAre(house, (dye + 2) % 4, 0, 0, 0, 0, 0, 0);
            accountsAre(house.then("dip(0, 0) = 800", "dip(1, 0) = 400"), dye, 1637, 437, 1080, 120, 0, 0);
            accountsAre(house.then("rinse(1) = 40"), dye, 1637, 437, 1080, 80, 0, 40);
            accountsAre(house.then("drain(0) = 400"), dye, 1637, 37, 1080, 80, 0, 440);
            house.then("order(0, 0, 0, 0) = 0", "set(4, 2000) = 150", "order(2000, 2000, 2000, 2000) = 1", "hang(0, 0) = 1");
            accountsAre(house.then("sell(0, 1) = 200"), dye, 1637, 37, 360, 0, 800, 440);
            accountsAre(house.then("undo() = 3"), dye, 1637, 37, 1080, 80, 0, 440);
            accountsAre(house, (dye + 1) % 4, 5, 5, 0, 0, 0, 0);
        }
    }

    private static void soldOnes() {
        Calls house = Calls.of("23: in lots that are sold, all of them, fixed and loose", "vat(2, 10) = 0",
            "weigh(0, 1600) = 1600", "set(4, 2000) = 150", "lot(0, 200) = 0", "lot(0, 200) = 1", "lot(0, 200) = 2",
            "dip(0, 0) = 800", "dip(1, 0) = 400", "dip(2, 0) = 200", "rinse(1) = 40", "order(0, 0, 2000, 0) = 0",
            "order(0, 0, 2000, 0) = 1", "order(0, 0, 3000, 0) = 2", "hang(0, 0) = 1", "hang(1, 0) = 2",
            "hang(2, 0) = 3", "account(2, 2) = 1260", "account(2, 3) = 100", "account(2, 4) = 0", "sell(1, 1) = 200",
            "account(2, 2) = 900", "account(2, 3) = 100", "account(2, 4) = 360", "sell(0, 2) = 200");
        accountsAre(house, 2, 1600, 200, 180, 20, 1160, 40);
        accountsAre(house.then("sell(2, 0) = 200"), 2, 1600, 200, 0, 0, 1360, 40);
        accountsAre(house, 1, 0, 0, 0, 0, 0, 0);
    }

    private static void fullAccount() {
        Calls house = Calls.of("23: a million grains in vats, in a lot and in the waste", "vat(1, 10) = 0", "set(0, 1) = 20",
            "lot(1, 5000) = 0");
        for (int i = 1; i <= 10; i++) {
            house.then("weigh(0, 100000) = " + 100000 * i);
        }
        accountsAre(house, 1, 1000000, 1000000, 0, 0, 0, 0);
        accountsAre(house.then("dip(0, 0) = 999000"), 1, 1000000, 1000, 899100, 99900, 0, 0);
        accountsAre(house.then("rinse(0) = 99900", "drain(0) = 1000"), 1, 1000000, 0, 899100, 0, 0, 100900);
    }

    private static void numbers() {
        Calls house = new Calls("24: what: 0 to 11 and 20 to 26");
        for (int what = 0; what <= 11; what++) {
            house.then("count(" + what + ") = 0");
        }
        for (int what = 12; what <= 19; what++) {
            house.then("count(" + what + ") = -1");
        }
        for (int what = 0; what < 7; what++) {
            house.then("count(" + (20 + what) + ") = " + FIRST[what]);
        }
        house.then("count(27) = -1", "count(28) = -1", "count(-2) = -1", "count(-20) = -1", "count(100) = -1");
        for (int what : OUT) {
            house.then("count(" + what + ") = -1");
        }
        for (int bit = 5; bit < 32; bit++) {
            house.then("count(" + (20 ^ 1 << bit) + ") = -1", "count(" + (1 << bit) + ") = -1");
        }
    }

    private static void numbersOfFullHouse() {
        Calls.of("24: the numbers of a full house", Stages.full()).then("count(0) = 6", "count(1) = 20", "count(2) = 19",
            "count(3) = 8", "count(4) = 1", "count(5) = 1", "count(6) = 1", "count(7) = 9", "count(8) = 8", "count(9) = 3",
            "count(10) = 4", "count(11) = 60");
        Calls.of("24: those that hang, on both racks, none that is sold", "lot(0, 100) = 0", "lot(1, 100) = 1",
            "hang(0, 0) = 1", "count(3) = 1", "hang(1, 1) = 1", "count(3) = 2", "order(0, 0, 0, 0) = 0",
            "sell(1, 0) = 100", "count(3) = 1", "count(2) = 1", "count(6) = 1", "count(1) = 2", "count(8) = 0",
            "count(7) = 1", "take(0) = 0", "count(3) = 0");
        Calls.of("24: dips so far, also those of texts, none that is refused or thought of", "vat(0, 10) = 0",
            "weigh(0, 1600) = 1600", "lot(0, 200) = 0", "dip(0, 0) = 800", "count(9) = 1", "dip(0, 1) = -1",
            "takes(0, 0, 30) = 799", "order(5000, 0, 0, 0) = 0", "plan(0, 0, -1) = -4", "count(9) = 1", "text d0,0;d0,0;",
            "fault(0) = -4", "count(9) = 1", "play() = 2", "count(9) = 3", "lotOf(0, 9) = 3", "undo() = 3",
            "count(9) = 1", "drain(0) = 800", "dip(0, 0) = -2", "count(9) = 1");
    }

    private static void spoiledAndDark() {
        Calls house = Calls.of("24: those in the house that are spoiled, and those that are dark, sold ones too",
            "vat(3, 10) = 0", "vat(0, 10) = 1", "weigh(0, 4000) = 4000", "weigh(1, 400) = 400", "lot(0, 200) = 0",
            "lot(0, 200) = 1", "set(3, 100) = 8000", "dip(0, 1) = 200", "count(4) = 1", "dip(1, 1) = 100", "count(4) = 2",
            "count(5) = 0", "dip(0, 0) = 2000", "count(4) = 1", "count(5) = 1", "order(1000, 0, 0, 10000) = 0",
            "hang(0, 0) = 1", "sell(0, 0) = 200", "count(4) = 1", "count(5) = 1", "dip(1, 0) = 1000", "count(4) = 0",
            "count(5) = 2");
        house.then("undo() = 3", "count(4) = 1", "count(5) = 1");
    }

    private static void settings() {
        for (int what = 0; what < 7; what++) {
            String set = "set(" + what + ", ";
            String count = "count(" + (20 + what) + ") = ";
            Calls house = Calls.of("25: the range and the first value of the setting " + what, count + FIRST[what],
                set + (LEAST[what] - 1) + ") = -1", set + (MOST[what] + 1) + ") = -1", count + FIRST[what],
                "count(10) = 0", set + LEAST[what] + ") = " + FIRST[what], count + LEAST[what],
                set + (LEAST[what] + 1) + ") = " + LEAST[what], set + (MOST[what] - 1) + ") = " + (LEAST[what] + 1),
                set + MOST[what] + ") = " + (MOST[what] - 1), count + MOST[what], set + MOST[what] + ") = " + MOST[what],
                set + (LEAST[what] - 1) + ") = -1", set + (MOST[what] + 1) + ") = -1", "count(10) = 4", count + MOST[what]);
            for (int value : OUT) {
                house.then(set + value + ") = -1");
            }
            for (int other = 0; other < 7; other++) {
                if (other != what) {
                    house.then("count(" + (20 + other) + ") = " + FIRST[other]);
                }
            }
            house.then("undo() = 3", count + MOST[what], "undo() = 2", count + (MOST[what] - 1), "undo() = 1",
                count + (LEAST[what] + 1), "undo() = 0", count + LEAST[what]);
        }
    }

    private static void settingNumbers() {
        Calls house = Calls.of("25: what: 0 to 6", "set(-1, 20) = -1", "set(7, 20) = -1", "set(20, 20) = -1",
            "set(-1, -1) = -1", "set(7, -1) = -1", "count(10) = 0", "set(0, 21) = 20", "set(6, 21) = 2000");
        for (int what : OUT) {
            house.then("set(" + what + ", 20) = -1");
        }
        house.then("count(10) = 2", "set(0, 21) = 21", "count(10) = 3");
    }

    private static void emptyHistory() {
        Calls.of("26: NOT_POSSIBLE if it is empty", "undo() = -2", "count(10) = 0", "set(0, 5) = 20", "count(10) = 1",
            "undo() = 0", "count(10) = 0", "count(20) = 20", "undo() = -2", "count(20) = 20", "set(0, 6) = 20",
            "undo() = 0", "undo() = -2");
    }

    private static void fourStates() {
        Calls house = new Calls("26: at most 4 states; if there are 5 then, the oldest one is dropped");
        for (int i = 1; i <= 9; i++) {
            house.then("set(0, " + (20 + i) + ") = " + (19 + i), "count(10) = " + Math.min(i, 4));
        }
        house.then("undo() = 3", "count(20) = 28", "undo() = 2", "count(20) = 27", "undo() = 1", "count(20) = 26",
            "undo() = 0", "count(20) = 25", "undo() = -2", "count(20) = 25");
        Calls.of("26: exactly 4", "set(0, 1) = 20", "set(0, 2) = 1", "set(0, 3) = 2", "set(0, 4) = 3", "count(10) = 4",
            "undo() = 3", "undo() = 2", "undo() = 1", "undo() = 0", "count(20) = 20", "undo() = -2");
        Calls.of("26: a state that is restored is removed", "set(0, 1) = 20", "set(0, 2) = 1", "undo() = 1",
            "set(0, 3) = 1", "count(10) = 2", "undo() = 1", "count(20) = 1", "undo() = 0", "count(20) = 20", "undo() = -2");
        Calls.of("26: full, undone, and full again", "set(0, 1) = 20", "set(0, 2) = 1", "set(0, 3) = 2", "set(0, 4) = 3",
            "set(0, 5) = 4", "undo() = 3", "undo() = 2", "set(0, 6) = 3", "set(0, 7) = 6", "count(10) = 4",
            "set(0, 8) = 7", "count(10) = 4", "undo() = 3", "count(20) = 7", "undo() = 2", "count(20) = 6", "undo() = 1",
            "count(20) = 3", "undo() = 0", "count(20) = 2", "undo() = -2");
    }

    /** Each kind of change, and how it shows: the call, the question, its answers ahead of it and behind it. */
    private static void everyChange() {
        String[][] changes = {{"vat(2, 30) = 2", "vatOf(2, 1)", "-1", "30"}, {"weigh(0, 50) = 1250", "vatOf(0, 2)", "1200", "1250"},
            {"drain(0) = 1200", "account(0, 5)", "0", "1200"}, {"lot(1, 400) = 3", "lotOf(3, 1)", "-1", "400"},
            {"dip(1, 0) = 600", "lotOf(1, 9)", "0", "1"}, {"rinse(0) = 80", "account(0, 5)", "0", "80"},
            {"hang(1, 0) = 2", "lotOf(1, 5)", "0", "1"}, {"take(2) = 0", "lotOf(2, 5)", "1", "0"},
            {"order(7, 0, 0, 0) = 1", "orderOf(1, 0)", "-1", "7"}, {"sell(2, 0) = 200", "lotOf(2, 8)", "-4", "0"},
            {"set(6, 77) = 2000", "count(26)", "2000", "77"}, {"play() = 2", "lotOf(1, 9)", "0", "1"}};
        for (String[] change : changes) {
            Calls house = Calls.of("26: a change: " + change[0], "vat(0, 10) = 0", "vat(1, 10) = 1", "weigh(0, 1600) = 1600",
                "lot(0, 200) = 0", "lot(0, 200) = 1", "lot(0, 200) = 2", "order(0, 0, 0, 0) = 0", "dip(0, 0) = 800",
                "weigh(0, 400) = 1200", "set(5, 5) = 10", "text r1;d1,0;", "hang(2, 0) = 1", "count(10) = 4");
            String ahead = change[1] + " = " + change[2];
            String behind = change[1] + " = " + change[3];
            house.then(ahead, change[0], behind, "count(10) = 4", "undo() = 3", ahead, "lotOf(2, 5) = 1", "count(25) = 5",
                "count(26) = 2000", "vatOf(0, 2) = 1200", "undo() = 2", "lotOf(2, 5) = 0",
                "undo() = 1", "count(25) = 10", "undo() = 0", "undo() = -2");
        }
        Calls.of("26: also where nothing becomes other than it was", "vat(0, 10) = 0", "drain(0) = 0", "count(10) = 2",
            "set(0, 20) = 20", "count(10) = 3", "play() = 0", "count(10) = 4", "lot(0, 100) = 0", "rinse(0) = 0",
            "undo() = 3", "undo() = 2", "count(1) = 0", "undo() = 1", "undo() = 0", "count(0) = 1", "undo() = -2");
    }

    private static void everyError() {
        Calls house = Calls.of("26: no state of a call that returns an error, of a question, a text, or undo",
            "vat(0, 10) = 0", "lot(0, 100) = 0", "count(10) = 2");
        house.then("vat(4, 10) = -1", "weigh(0, 0) = -1", "drain(1) = -1", "lot(2, 100) = -1", "dip(0, 0) = -2",
            "rinse(1) = -1", "hang(0, 1) = -2", "take(0) = -2", "order(-1, 0, 0, 0) = -1", "sell(0, 0) = -1",
            "set(0, 0) = -1", "text x", "play() = -2", "count(10) = 2", "vatOf(0, 0) = 0", "vatAt(0) = 0",
            "lotOf(0, 0) = 0", "shade(0, 0) = 0", "shadeBits(0, 0) = 0", "meanBits(0) = 0", "match(0, 0) = 1",
            "alike(0) = 1", "takes(0, 0, 1) = 0", "account(0, 0) = 0", "type(100) = 2", "fault(0) = 0",
            "clearText() = 2", "count(10) = 2", "undo() = 1", "count(10) = 1", "count(1) = 0", "undo() = 0",
            "count(0) = 0");
    }

    private static void everythingButTheText() {
        Calls house = Calls.of("26: everything before it but the text", "text d0", "vat(0, 10) = 0", "weigh(0, 800) = 800",
            "lot(0, 200) = 0", "dip(0, 0) = 400", "type(44) = 3", "undo() = 3", "count(11) = 3", "fault(1) = 1",
            "type(48) = 4", "type(59) = 5", "fault(0) = -4", "undo() = 2", "count(11) = 5", "fault(2) = -1",
            "clearText() = 5", "undo() = 1", "count(11) = 0", "undo() = 0", "count(11) = 0", "undo() = -2");
        house.then("text r0;", "fault(2) = -1", "lot(0, 100) = 0", "fault(0) = -4", "undo() = 0", "count(11) = 3",
            "fault(2) = -1");
    }
}
