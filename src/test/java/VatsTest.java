/** Promises 1 to 6: a new object, and the vats. */
public final class VatsTest {
    public static void main(String[] args) {
        newObject();
        vat();
        weigh();
        drain();
        vatOf();
        vatAt();
        Calls.end();
    }

    private static void newObject() {
        Calls empty = new Calls("1: empty");
        for (int what = 0; what <= 11; what++) {
            empty.then("count(" + what + ") = 0");
        }
        for (int dye = 0; dye < 4; dye++) {
            for (int what = 0; what <= 5; what++) {
                empty.then("account(" + dye + ", " + what + ") = 0");
            }
        }
        empty.then("vatAt(0) = -4", "vatOf(0, 0) = -1", "lotOf(0, 0) = -1", "orderOf(0, 0) = -1",
            "shade(0, 0) = -1", "shadeBits(0, 0) = -1", "meanBits(0) = -4", "alike(0) = 0",
            "match(0, 0) = -1", "plan(0, 0, -1) = -1", "takes(0, 0, 1) = -1", "undo() = -2",
            "fault(0) = -4", "clearText() = 0", "dip(0, 0) = -1", "rinse(0) = -1", "hang(0, 0) = -1",
            "take(0) = -1", "sell(0, 0) = -1", "weigh(0, 1) = -1", "drain(0) = -1");
        Calls.of("1: the first settings", "count(20) = 20", "count(21) = 5", "count(22) = 200",
            "count(23) = 8000", "count(24) = 150", "count(25) = 10", "count(26) = 2000");
        Calls one = Calls.of("1: objects apart", "vat(0, 10) = 0", "set(0, 7) = 20");
        Calls.of("1: objects apart", "count(0) = 0", "count(20) = 20", "vat(1, 11) = 0");
        one.then("vatOf(0, 0) = 0", "count(20) = 7");
    }

    private static void vat() {
        Calls.of("2: ranges", "vat(-1, 10) = -1", "vat(4, 10) = -1", "vat(0, 9) = -1", "vat(0, 1001) = -1",
            "vat(2147483647, 10) = -1", "vat(0, -2147483648) = -1", "count(0) = 0", "count(10) = 0",
            "vat(0, 10) = 0", "vat(3, 1000) = 1", "count(0) = 2", "count(10) = 2");
        Calls six = new Calls("2: six vats");
        for (int i = 0; i < 6; i++) {
            six.then("vat(" + i % 4 + ", 50) = " + i);
        }
        six.then("vat(0, 50) = -3", "vat(4, 50) = -1", "vat(0, 9) = -1", "count(0) = 6", "undo() = 3",
            "vat(2, 60) = 5", "vatOf(5, 0) = 2", "vatOf(5, 1) = 60", "vatOf(4, 1) = 50");
    }

    private static void weigh() {
        Calls.of("3: ranges", "weigh(0, 5) = -1", "vat(0, 50) = 0", "weigh(-1, 5) = -1", "weigh(1, 5) = -1",
            "weigh(0, 0) = -1", "weigh(0, -3) = -1", "weigh(0, 100001) = -1", "vatOf(0, 2) = 0",
            "count(10) = 1", "weigh(0, 1) = 1", "weigh(0, 100000) = 100001", "account(0, 0) = 100001");
        Calls full = Calls.of("3: at most a million", "vat(1, 50) = 0", "vat(1, 60) = 1", "vat(2, 60) = 2");
        for (int i = 1; i <= 9; i++) {
            full.then("weigh(0, 100000) = " + i * 100000);
        }
        full.then("drain(0) = 900000", "weigh(1, 99999) = 99999", "weigh(0, 2) = -3", "weigh(1, 2) = -3",
            "count(10) = 4", "weigh(0, 1) = 1", "weigh(0, 1) = -3", "weigh(1, 1) = -3", "weigh(0, 0) = -1",
            "weigh(3, 1) = -1", "account(1, 0) = 1000000", "weigh(2, 100000) = 100000", "undo() = 3",
            "undo() = 2", "weigh(1, 1) = 100000", "weigh(1, 1) = -3");
    }

    private static void drain() {
        Calls.of("4: drain", "drain(0) = -1", "vat(0, 10) = 0", "vat(0, 10) = 1", "drain(-1) = -1",
            "drain(2) = -1", "drain(0) = 0", "count(10) = 3", "weigh(0, 700) = 700", "weigh(1, 40) = 40",
            "lot(0, 200) = 0", "dip(0, 0) = 350", "vatOf(0, 3) = 1", "drain(0) = 350", "vatOf(0, 2) = 0",
            "vatOf(0, 3) = 0", "account(0, 5) = 350", "vatOf(1, 2) = 40", "drain(1) = 40",
            "account(0, 5) = 390", "account(0, 1) = 0", "account(0, 0) = 740", "account(0, 2) = 315");
    }

    private static void vatOf() {
        Calls.of("5: vatOf", "vat(2, 33) = 0", "vat(3, 10) = 1", "vatOf(0, 0) = 2", "vatOf(0, 1) = 33",
            "vatOf(0, 2) = 0", "vatOf(0, 3) = 0", "vatOf(0, 4) = 0", "vatOf(0, 5) = -1", "vatOf(0, -1) = -1",
            "vatOf(2, 0) = -1", "vatOf(-1, 0) = -1", "vatOf(1, 0) = 3", "vatOf(1, 1) = 10", "count(10) = 2",
            "weigh(1, 100) = 100", "vatOf(1, 2) = 100", "vatOf(0, 2) = 0");
        Calls.of("5: dirt that spoils", "vat(0, 10) = 0", "weigh(0, 90000) = 90000", "lot(0, 2000) = 0",
            "set(2, 10) = 200", "dip(0, 0) = 81818", "vatOf(0, 3) = 10", "vatOf(0, 4) = 0", "lot(0, 100) = 1",
            "dip(1, 0) = 2727", "vatOf(0, 3) = 11", "vatOf(0, 4) = 1", "set(2, 11) = 10", "vatOf(0, 4) = 0");
    }

    private static void vatAt() {
        Calls.of("6: the strongest", "vatAt(0) = -4", "vatAt(-1) = -1", "vat(0, 10) = 0", "vat(1, 20) = 1",
            "vat(2, 30) = 2", "weigh(0, 105) = 105", "weigh(1, 218) = 218", "weigh(2, 330) = 330",
            "vatAt(0) = 2", "vatAt(1) = 0", "vatAt(2) = 1", "vatAt(3) = -4", "vatAt(2147483647) = -4",
            "vatAt(-2147483648) = -1", "weigh(1, 2) = 220", "vatAt(0) = 1", "vatAt(1) = 2", "vatAt(2) = 0");
        Calls.of("6: dirt, then number", "vat(0, 10) = 0", "vat(1, 10) = 1", "vat(2, 10) = 2",
            "weigh(0, 40) = 40", "weigh(1, 20) = 20", "weigh(2, 20) = 20", "lot(0, 200) = 0", "dip(0, 0) = 20",
            "vatAt(0) = 1", "vatAt(1) = 2", "vatAt(2) = 0", "weigh(1, 20) = 40", "dip(0, 1) = 20",
            "vatAt(0) = 2", "vatAt(1) = 0", "vatAt(2) = 1", "drain(2) = 20", "vatAt(0) = 0", "vatAt(2) = 2",
            "count(10) = 4");
    }
}
