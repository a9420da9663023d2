/** Promises 23 to 26: accounts, numbers, settings and the history. */
public final class AccountsTest {
    public static void main(String[] args) {
        account();
        count();
        set();
        undo();
        changes();
        restores();
        Calls.end();
    }

    private static void account() {
        Calls.of("23: account", "account(-1, 0) = -1", "account(4, 0) = -1", "account(0, -1) = -1",
            "account(0, 6) = -1", "vat(0, 10) = 0", "vat(0, 20) = 1", "vat(1, 10) = 2",
            "weigh(0, 1000) = 1000", "weigh(1, 300) = 300", "weigh(2, 400) = 400", "lot(0, 200) = 0",
            "lot(0, 200) = 1", "dip(0, 0) = 500", "dip(1, 0) = 250", "dip(1, 2) = 200",
            "account(0, 0) = 1300", "account(0, 1) = 550", "account(0, 2) = 675", "account(0, 3) = 75",
            "account(0, 4) = 0", "account(0, 5) = 0", "account(1, 0) = 400", "account(1, 1) = 200",
            "account(1, 2) = 180", "account(1, 3) = 20", "account(2, 0) = 0", "rinse(1) = 45",
            "account(0, 3) = 50", "account(1, 3) = 0", "account(0, 5) = 25", "account(1, 5) = 20",
            "order(2500, 0, 0, 0) = 0", "hang(0, 0) = 1", "account(0, 2) = 675", "sell(0, 0) = 200",
            "account(0, 2) = 225", "account(0, 3) = 0", "account(0, 4) = 500", "account(1, 4) = 0",
            "drain(1) = 300", "account(0, 1) = 250", "account(0, 5) = 325", "account(0, 0) = 1300",
            "count(10) = 4", "undo() = 3", "undo() = 2", "account(0, 4) = 0", "account(0, 5) = 25",
            "account(0, 3) = 50");
    }

    private static void count() {
        Calls.of("24: ranges", "count(-1) = -1", "count(12) = -1", "count(19) = -1", "count(27) = -1",
            "count(2147483647) = -1", "count(-2147483648) = -1", "count(26) = 2000", "count(11) = 0");
        Calls.of("24: count", "vat(0, 10) = 0", "vat(3, 10) = 1", "weigh(0, 1000) = 1000",
            "weigh(1, 4000) = 4000", "lot(0, 200) = 0", "lot(0, 200) = 1", "lot(1, 100) = 2", "lot(1, 200) = 3",
            "count(0) = 2", "count(1) = 4", "count(2) = 4", "count(9) = 0", "count(10) = 4",
            "set(3, 2499) = 8000", "dip(0, 0) = 500", "count(4) = 1", "dip(1, 0) = 250", "count(4) = 1",
            "dip(0, 1) = 2000", "count(4) = 0", "count(5) = 1", "count(9) = 3", "dip(2, 0) = 125",
            "count(9) = 4", "hang(0, 0) = 1", "hang(1, 0) = 2", "hang(2, 1) = 1", "count(3) = 3",
            "order(2500, 0, 0, 10000) = 0", "order(1250, 0, 0, 0) = 1", "order(1250, 0, 0, 0) = 2",
            "count(7) = 3", "count(8) = 3", "sell(0, 0) = 200", "count(2) = 3", "count(3) = 2", "count(5) = 1",
            "count(6) = 1", "count(7) = 3", "count(8) = 2", "set(3, 100) = 2499", "take(2) = 0",
            "dip(2, 0) = 62", "count(4) = 1", "dip(3, 0) = 42", "count(4) = 2", "count(1) = 4",
            "text d0", "count(11) = 2", "undo() = 3", "count(4) = 1", "count(9) = 5", "count(11) = 2");
    }

    private static void set() {
        int[] least = {1, 0, 10, 100, 0, 0, 0};
        int[] most = {100, 50, 1000, 20000, 2000, 50, 20000};
        int[] first = {20, 5, 200, 8000, 150, 10, 2000};
        for (int what = 0; what < 7; what++) {
            Calls.of("25: setting " + what, "set(" + what + ", " + (least[what] - 1) + ") = -1",
                "set(" + what + ", " + (most[what] + 1) + ") = -1", "count(10) = 0",
                "set(" + what + ", " + least[what] + ") = " + first[what],
                "count(" + (20 + what) + ") = " + least[what],
                "set(" + what + ", " + most[what] + ") = " + least[what],
                "set(" + what + ", " + most[what] + ") = " + most[what],
                "count(" + (20 + what) + ") = " + most[what], "count(10) = 3", "undo() = 2", "undo() = 1",
                "count(" + (20 + what) + ") = " + least[what], "undo() = 0",
                "count(" + (20 + what) + ") = " + first[what]);
        }
        Calls.of("25: ranges", "set(-1, 20) = -1", "set(7, 20) = -1", "set(2147483647, 20) = -1",
            "set(0, -2147483648) = -1", "count(10) = 0");
    }

    private static void undo() {
        Calls.of("26: undo", "undo() = -2", "vat(0, 10) = 0", "undo() = 0", "count(0) = 0", "undo() = -2",
            "vat(0, 10) = 0", "vat(1, 11) = 1", "vat(2, 12) = 2", "vat(3, 13) = 3", "count(10) = 4",
            "vat(0, 14) = 4", "count(10) = 4", "undo() = 3", "count(0) = 4", "undo() = 2", "undo() = 1",
            "undo() = 0", "count(0) = 1", "undo() = -2", "vatOf(0, 1) = 10", "vat(2, 15) = 1",
            "count(10) = 1", "vatOf(1, 1) = 15", "undo() = 0", "vatOf(1, 1) = -1");
        Calls.of("26: everything but the text", "vat(3, 10) = 0", "weigh(0, 8000) = 8000", "lot(0, 200) = 0",
            "set(3, 2000) = 8000", "dip(0, 0) = 4000", "lotOf(0, 7) = 1", "text r0;h0,0;", "undo() = 3",
            "lotOf(0, 7) = 0", "lotOf(0, 3) = 0", "lotOf(0, 4) = 0", "lotOf(0, 9) = 0", "count(9) = 0",
            "vatOf(0, 2) = 8000", "vatOf(0, 3) = 0", "account(3, 3) = 0", "count(11) = 8", "play() = 2",
            "lotOf(0, 5) = 1", "undo() = 3", "lotOf(0, 5) = 0", "count(11) = 8", "clearText() = 8", "undo() = 2",
            "count(11) = 0", "count(23) = 8000", "undo() = 1", "count(1) = 0", "undo() = 0", "account(3, 0) = 0",
            "vatOf(0, 2) = 0", "undo() = -2");
        Calls.of("26: a lot that comes anew is blank", "vat(0, 10) = 0", "weigh(0, 900) = 900",
            "lot(0, 200) = 0", "order(2250, 0, 0, 0) = 0", "text d0,0;h0,0;s0,0;", "play() = 3", "undo() = 3",
            "orderOf(0, 4) = 0", "lotOf(0, 8) = -4", "undo() = 2", "undo() = 1", "lot(1, 300) = 0",
            "lotOf(0, 3) = 0", "lotOf(0, 9) = 0", "lotOf(0, 5) = 0", "order(1, 2, 3, 4) = 0",
            "orderOf(0, 4) = 0", "orderOf(0, 0) = 1");
    }

    /** Each kind of change makes one state, and no other call makes one. */
    private static void changes() {
        Calls.of("26: what a change is", "vat(0, 10) = 0", "undo() = 0", "vat(0, 10) = 0", "count(10) = 1",
            "weigh(0, 500) = 500", "count(10) = 2", "lot(0, 200) = 0", "count(10) = 3", "dip(0, 0) = 250",
            "count(10) = 4", "undo() = 3", "undo() = 2", "undo() = 1", "drain(0) = 0", "count(10) = 2",
            "undo() = 1", "lot(1, 200) = 0", "hang(0, 1) = 1", "count(10) = 3", "take(0) = 0", "count(10) = 4",
            "undo() = 3", "lotOf(0, 5) = 1", "undo() = 2", "rinse(0) = 0", "count(10) = 3", "undo() = 2",
            "order(0, 0, 0, 0) = 0", "count(10) = 3", "undo() = 2", "play() = 0", "count(10) = 3",
            "set(0, 20) = 20", "count(10) = 4", "undo() = 3", "undo() = 2", "undo() = 1");
        Calls.of("26: selling", "lot(0, 200) = 0", "order(0, 0, 0, 0) = 0", "hang(0, 0) = 1",
            "sell(0, 0) = 200", "count(10) = 4", "undo() = 3", "lotOf(0, 8) = -4", "lotOf(0, 5) = 1",
            "orderOf(0, 4) = 0", "count(6) = 0", "undo() = 2", "count(3) = 0");
        Calls.of("26: no change", "lot(0, 200) = 0", "vat(0, 10) = 0", "order(0, 0, 0, 0) = 0", "vatOf(0, 0) = 0",
            "vatAt(0) = 0", "lotOf(0, 0) = 0", "shade(0, 0) = 0", "shadeBits(0, 0) = 0", "meanBits(0) = 0",
            "orderOf(0, 0) = 0", "match(0, 0) = 1", "alike(0) = 1", "plan(0, 0, -1) = 0", "takes(0, 0, 1) = 0",
            "account(0, 0) = 0", "count(0) = 1", "type(100) = 1", "fault(0) = 0", "clearText() = 1",
            "count(10) = 3", "dip(0, 0) = -2", "take(0) = -2", "sell(0, 0) = -2", "hang(0, 1) = -2",
            "count(10) = 3", "type(100) = 1", "play() = -2", "count(10) = 3");
    }

    /** The undo of each kind of change leads to the state right ahead of it. */
    private static void restores() {
        String[] changes = {"vat(1, 10) = 1", "weigh(0, 1) = 501", "lot(1, 100) = 3", "drain(0) = 500",
            "dip(0, 0) = 178", "rinse(0) = 50", "hang(0, 0) = 2", "take(2) = 0", "order(1, 2, 3, 4) = 1",
            "sell(2, 0) = 100", "set(0, 99) = 36", "play() = 1"};
        for (String change : changes) {
            Calls stage = Calls.of("26: back from " + change, "vat(0, 10) = 0", "weigh(0, 1000) = 1000",
                "lot(0, 200) = 0", "lot(0, 100) = 1", "lot(0, 100) = 2", "order(0, 0, 0, 0) = 0",
                "hang(2, 0) = 1", "dip(0, 0) = 500", "text d1,0;");
            for (int bath = 31; bath <= 36; bath++) {
                stage.then("set(0, " + bath + ") = " + (bath == 31 ? 20 : bath - 1));
            }
            stage.then(change, "count(10) = 4", "undo() = 3", "count(20) = 36", "vatOf(0, 2) = 500",
                "vatOf(0, 3) = 1", "lotOf(0, 9) = 1", "lotOf(0, 4) = 50", "lotOf(1, 9) = 0", "lotOf(0, 5) = 0",
                "lotOf(2, 5) = 1", "count(0) = 1", "count(1) = 3", "count(3) = 1", "count(6) = 0",
                "count(7) = 1", "count(8) = 1", "count(9) = 1", "count(11) = 5", "account(0, 0) = 1000",
                "account(0, 5) = 0", "undo() = 2", "count(20) = 35", "undo() = 1", "undo() = 0",
                "count(20) = 33", "undo() = -2");
        }
    }
}
