/** Promises 7 to 15: lots, dips, racks and shades. */
public final class LotsTest {
    public static void main(String[] args) {
        lot();
        dip();
        dirtAndDepth();
        savedByBlack();
        rinse();
        hang();
        take();
        lotOf();
        shade();
        shadeBits();
        meanBits();
        Calls.end();
    }

    private static void lot() {
        Calls.of("7: ranges", "lot(-1, 100) = -1", "lot(2, 100) = -1", "lot(0, 99) = -1", "lot(1, 5001) = -1",
            "lot(0, -2147483648) = -1", "count(1) = 0", "count(10) = 0", "lot(0, 100) = 0", "lot(1, 5000) = 1",
            "count(1) = 2", "count(10) = 2", "lotOf(0, 0) = 0", "lotOf(1, 0) = 1", "lotOf(1, 1) = 5000",
            "lotOf(1, 2) = 0", "lotOf(1, 5) = 0", "lotOf(1, 6) = 0", "lotOf(1, 8) = -4", "lotOf(1, 9) = 0");
        Calls twenty = new Calls("7: twenty lots");
        for (int i = 0; i < 20; i++) {
            twenty.then("lot(" + i % 2 + ", " + (100 + i) + ") = " + i);
        }
        twenty.then("lot(0, 100) = -3", "lot(2, 100) = -1", "lot(0, 99) = -1", "count(1) = 20",
            "lotOf(19, 1) = 119", "lotOf(20, 1) = -1", "order(0, 0, 0, 0) = 0", "hang(0, 0) = 1",
            "sell(0, 0) = 100", "lot(0, 100) = -3", "count(10) = 4");
    }

    private static void dip() {
        Calls.of("8: linen and wool", "vat(0, 50) = 0", "weigh(0, 3000) = 3000", "lot(1, 500) = 0",
            "lot(0, 400) = 1", "dip(0, 0) = 1500", "dip(1, 0) = 428", "vatOf(0, 2) = 1072", "vatOf(0, 3) = 5",
            "lotOf(0, 3) = 1350", "lotOf(0, 4) = 150", "lotOf(1, 3) = 386", "lotOf(1, 4) = 42",
            "lotOf(0, 9) = 1", "lotOf(1, 9) = 1", "count(9) = 2", "shade(1, 0) = 1070");
        Calls.of("8: the settings of a dip", "vat(1, 10) = 0", "weigh(0, 1000) = 1000", "lot(0, 201) = 0",
            "set(0, 1) = 20", "set(1, 50) = 5", "set(5, 33) = 10", "dip(0, 0) = 952", "vatOf(0, 3) = 11",
            "lotOf(0, 4) = 314", "lotOf(0, 3) = 638", "set(1, 0) = 50", "dip(0, 0) = 45", "vatOf(0, 3) = 11",
            "set(5, 0) = 33", "dip(0, 0) = 2", "lotOf(0, 4) = 328", "set(1, 5) = 0", "dip(0, 0) = 0",
            "vatOf(0, 3) = 13", "vatOf(0, 2) = 1", "count(9) = 4", "lotOf(0, 9) = 4");
        Calls.of("8: dirt is rounded up", "vat(1, 10) = 0", "weigh(0, 1000) = 1000", "lot(0, 1001) = 0",
            "lot(1, 1000) = 1", "set(1, 2) = 5", "dip(0, 0) = 833", "vatOf(0, 3) = 3", "dip(1, 0) = 151",
            "vatOf(0, 3) = 5", "set(1, 1) = 2", "dip(0, 0) = 13", "vatOf(0, 3) = 7");
        Calls.of("8: errors", "vat(0, 10) = 0", "lot(0, 200) = 0", "dip(0, 0) = -2", "dip(1, 0) = -1",
            "dip(-1, 0) = -1", "dip(0, 1) = -1", "dip(0, -1) = -1", "weigh(0, 1000) = 1000", "hang(0, 0) = 1",
            "dip(0, 0) = -2", "dip(0, 1) = -1", "count(10) = 4", "take(0) = 0", "dip(0, 0) = 500",
            "order(2500, 0, 0, 0) = 0", "hang(0, 0) = 1", "sell(0, 0) = 200", "dip(0, 0) = -2",
            "vatOf(0, 2) = 500", "vatOf(0, 3) = 1", "lotOf(0, 9) = 1", "count(9) = 1");
        Calls big = Calls.of("8: much dye", "vat(2, 10) = 0", "lot(1, 5000) = 0");
        for (int i = 1; i <= 10; i++) {
            big.then("weigh(0, 100000) = " + i * 100000);
        }
        big.then("dip(0, 0) = 980392", "vatOf(0, 2) = 19608", "shade(0, 2) = 196078", "lotOf(0, 2) = 196078",
            "lotOf(0, 4) = 98039", "vatOf(0, 3) = 25");
    }

    private static void dirtAndDepth() {
        Calls.of("8: dirt spoils above the setting", "vat(0, 100) = 0", "weigh(0, 1000) = 1000",
            "lot(0, 2000) = 0", "lot(0, 100) = 1", "lot(0, 100) = 2", "set(2, 10) = 200", "dip(0, 0) = 500",
            "vatOf(0, 3) = 10", "lotOf(0, 6) = 0", "dip(1, 0) = 23", "vatOf(0, 3) = 11", "lotOf(1, 6) = 0",
            "dip(2, 0) = 22", "lotOf(2, 6) = 1", "lotOf(2, 7) = 0", "drain(0) = 455", "lotOf(2, 6) = 1",
            "weigh(0, 100) = 100", "dip(2, 0) = 4", "lotOf(2, 6) = 1", "count(4) = 1");
        Calls.of("8: depth spoils above the setting", "vat(0, 10) = 0", "vat(1, 10) = 1",
            "weigh(0, 200) = 200", "weigh(1, 200) = 200", "lot(0, 200) = 0", "lot(0, 200) = 1",
            "set(3, 1000) = 8000", "dip(0, 0) = 100", "dip(0, 1) = 100", "lotOf(0, 2) = 1000",
            "lotOf(0, 6) = 0", "dip(0, 0) = 50", "lotOf(0, 2) = 1250", "lotOf(0, 6) = 1", "set(3, 400) = 1000",
            "dip(1, 0) = 25", "dip(1, 1) = 50", "lotOf(1, 2) = 375", "lotOf(1, 6) = 0", "dip(1, 0) = 12",
            "lotOf(1, 2) = 435", "lotOf(1, 6) = 1", "rinse(1) = 8", "lotOf(1, 2) = 395", "lotOf(1, 6) = 1");
    }

    private static void savedByBlack() {
        Calls.of("8: saved by black at the setting", "vat(3, 10) = 0", "vat(0, 10) = 1",
            "weigh(0, 800) = 800", "weigh(1, 400) = 400", "lot(0, 200) = 0", "lot(0, 200) = 1",
            "set(3, 100) = 8000", "dip(0, 1) = 200", "lotOf(0, 6) = 1", "dip(0, 0) = 400", "shade(0, 3) = 2000",
            "lotOf(0, 6) = 0", "lotOf(0, 7) = 1", "dip(0, 1) = 100", "lotOf(0, 6) = 0", "lotOf(0, 7) = 1",
            "set(6, 1001) = 2000", "dip(1, 0) = 200", "shade(1, 3) = 1000", "lotOf(1, 6) = 1",
            "lotOf(1, 7) = 0", "set(6, 1000) = 1001", "lotOf(1, 6) = 1", "dip(1, 1) = 50", "lotOf(1, 6) = 1",
            "dip(1, 0) = 100", "lotOf(1, 6) = 0", "lotOf(1, 7) = 1", "count(5) = 2", "count(4) = 0");
        Calls.of("8: saved by the dip that spoils", "vat(3, 10) = 0", "weigh(0, 4000) = 4000",
            "lot(0, 200) = 0", "set(3, 9999) = 8000", "dip(0, 0) = 2000", "shade(0, 3) = 10000",
            "lotOf(0, 6) = 0", "lotOf(0, 7) = 1");
        Calls.of("8: unspoiled is not made dark", "vat(3, 10) = 0", "weigh(0, 1600) = 1600",
            "lot(0, 200) = 0", "dip(0, 0) = 800", "shade(0, 3) = 4000", "lotOf(0, 6) = 0", "lotOf(0, 7) = 0");
        Calls.of("8: a dark lot in dirt", "vat(3, 10) = 0", "weigh(0, 90000) = 90000", "lot(0, 2200) = 0",
            "set(2, 10) = 200", "set(6, 0) = 2000", "dip(0, 0) = 82500", "lotOf(0, 7) = 1", "set(6, 20000) = 0",
            "vatOf(0, 4) = 1", "dip(0, 0) = 6875", "lotOf(0, 6) = 0", "lotOf(0, 7) = 1");
    }

    private static void rinse() {
        Calls.of("9: rinse", "rinse(0) = -1", "vat(0, 10) = 0", "vat(1, 10) = 1", "weigh(0, 1000) = 1000",
            "weigh(1, 600) = 600", "lot(0, 200) = 0", "rinse(-1) = -1", "rinse(1) = -1", "rinse(0) = 0",
            "dip(0, 0) = 500", "dip(0, 1) = 300", "lotOf(0, 4) = 80", "hang(0, 0) = 1", "rinse(0) = -2",
            "take(0) = 0", "count(10) = 4", "rinse(0) = 80", "lotOf(0, 4) = 0", "lotOf(0, 3) = 720",
            "account(0, 5) = 50", "account(1, 5) = 30", "shade(0, 0) = 2250", "shade(0, 1) = 1350",
            "lotOf(0, 2) = 3600", "rinse(0) = 0", "undo() = 3", "undo() = 2", "lotOf(0, 4) = 80",
            "account(1, 5) = 0", "order(2500, 1500, 0, 0) = 0", "hang(0, 0) = 1", "sell(0, 0) = 200",
            "rinse(0) = -2", "lotOf(0, 4) = 80");
    }

    private static void hang() {
        Calls.of("10: hang", "hang(0, 0) = -1", "lot(0, 100) = 0", "lot(1, 100) = 1", "hang(0, -1) = -1",
            "hang(0, 2) = -1", "hang(-1, 0) = -1", "hang(2, 0) = -1", "hang(0, 1) = -2", "hang(1, 0) = -2",
            "count(10) = 2", "hang(0, 0) = 1", "hang(1, 1) = 1", "hang(0, 0) = -2", "hang(0, 2) = -1",
            "lotOf(0, 5) = 1", "count(3) = 2", "order(0, 0, 0, 0) = 0", "sell(0, 0) = 100", "hang(0, 0) = -2",
            "lotOf(0, 5) = 0", "count(3) = 1");
        Calls full = new Calls("10: four places");
        for (int i = 0; i < 6; i++) {
            full.then("lot(0, 100) = " + i);
        }
        full.then("lot(1, 100) = 6", "hang(5, 0) = 1", "hang(4, 0) = 2", "hang(0, 0) = 3", "hang(1, 0) = 4",
            "hang(2, 0) = -3", "hang(0, 0) = -2", "hang(2, 1) = -2", "hang(6, 0) = -2", "hang(2, 2) = -1",
            "hang(7, 0) = -1", "hang(6, 1) = 1", "count(3) = 5", "take(4) = 3", "hang(2, 0) = 4",
            "order(0, 0, 0, 0) = 0", "sell(0, 0) = 100", "hang(3, 0) = 4", "hang(4, 0) = -3");
    }

    private static void take() {
        Calls.of("11: take", "take(0) = -1", "lot(0, 100) = 0", "lot(0, 100) = 1", "lot(1, 100) = 2",
            "take(-1) = -1", "take(3) = -1", "take(0) = -2", "count(10) = 3", "hang(0, 0) = 1",
            "hang(1, 0) = 2", "hang(2, 1) = 1", "take(2) = 0", "take(0) = 1", "take(0) = -2", "lotOf(0, 5) = 0",
            "lotOf(1, 5) = 1", "order(0, 0, 0, 0) = 0", "sell(1, 0) = 100", "take(1) = -2", "take(3) = -1",
            "undo() = 3", "lotOf(1, 5) = 1", "take(1) = 0");
    }

    private static void lotOf() {
        Calls.of("12: lotOf", "vat(0, 10) = 0", "vat(2, 10) = 1", "weigh(0, 1000) = 1000",
            "weigh(1, 333) = 333", "lot(0, 100) = 0", "lot(1, 300) = 1", "lotOf(1, 0) = 1", "lotOf(1, 1) = 300",
            "dip(1, 0) = 750", "dip(1, 1) = 249", "lotOf(1, 2) = 3330", "lotOf(1, 3) = 900", "lotOf(1, 4) = 99",
            "lotOf(1, 5) = 0", "lotOf(1, 6) = 0", "lotOf(1, 7) = 0", "lotOf(1, 8) = -4", "lotOf(1, 9) = 2",
            "lotOf(0, 9) = 0", "lotOf(1, 10) = -1", "lotOf(1, -1) = -1", "lotOf(2, 0) = -1", "lotOf(-1, 0) = -1",
            "lotOf(2, 8) = -1", "order(0, 0, 0, 0) = 0", "order(2500, 0, 830, 0) = 1", "hang(1, 1) = 1",
            "lotOf(1, 5) = 1", "sell(1, 1) = 300", "lotOf(1, 8) = 1", "lotOf(1, 5) = 0", "lotOf(1, 2) = 3330",
            "lotOf(0, 8) = -4");
    }

    private static void shade() {
        Calls.of("13: shade", "vat(0, 10) = 0", "vat(3, 10) = 1", "weigh(0, 1000) = 1000", "weigh(1, 7) = 7",
            "lot(0, 300) = 0", "shade(0, 0) = 0", "dip(0, 0) = 600", "dip(0, 1) = 4", "shade(0, 0) = 2000",
            "shade(0, 1) = 0", "shade(0, 2) = 0", "shade(0, 3) = 13", "shade(0, 4) = -1", "shade(0, -1) = -1",
            "shade(1, 0) = -1", "shade(-1, 0) = -1", "rinse(0) = 60", "shade(0, 0) = 1800", "shade(0, 3) = 13",
            "order(1800, 0, 0, 0) = 0", "hang(0, 0) = 1", "sell(0, 0) = 300", "shade(0, 0) = 1800");
    }

    private static int bits(int grains, int weight) {
        return Float.floatToIntBits((float) grains / (float) weight);
    }

    private static void shadeBits() {
        Calls.of("14: shadeBits", "vat(0, 10) = 0", "vat(1, 10) = 1", "weigh(0, 1000) = 1000",
            "weigh(1, 3) = 3", "lot(0, 300) = 0", "lot(0, 4700) = 1", "shadeBits(0, 0) = 0",
            "dip(0, 0) = 600", "shadeBits(0, 0) = 1073741824", "dip(1, 0) = 383", "dip(1, 1) = 2",
            "shadeBits(1, 0) = " + bits(383, 4700), "shadeBits(1, 1) = " + bits(2, 4700),
            "shadeBits(1, 2) = 0", "shadeBits(1, 4) = -1", "shadeBits(1, -1) = -1", "shadeBits(2, 0) = -1",
            "shadeBits(-1, 0) = -1", "rinse(0) = 60", "shadeBits(0, 0) = " + bits(540, 300),
            "order(1800, 0, 0, 0) = 0", "hang(0, 0) = 1", "sell(0, 0) = 300",
            "shadeBits(0, 0) = " + bits(540, 300));
        Calls.of("14: the smallest shade", "vat(0, 10) = 0", "weigh(0, 2) = 2", "lot(0, 5000) = 0",
            "dip(0, 0) = 1", "shadeBits(0, 0) = " + bits(1, 5000));
        int weighed = 100;
        for (int weight = 100; weight <= 5000; weight += 175) {
            weighed += 3277;
            int taken = (int) ((long) weighed * weight / (weight + 200));
            Calls.of("14: many shades", "vat(2, 10) = 0", "weigh(0, " + weighed + ") = " + weighed,
                "lot(0, " + weight + ") = 0", "dip(0, 0) = " + taken,
                "shadeBits(0, 2) = " + bits(taken, weight), "meanBits(2) = " + bits(taken, weight));
        }
    }

    private static int mean(double sum, int lots) {
        return Float.floatToIntBits((float) (sum / (double) lots));
    }

    private static void meanBits() {
        double first = (float) 500 / (float) 200;
        double second = (float) 300 / (float) 300;
        double third = (float) 66 / (float) 100;
        Calls.of("15: meanBits", "meanBits(0) = -4", "meanBits(4) = -1", "meanBits(-1) = -1",
            "vat(0, 10) = 0", "weigh(0, 1000) = 1000", "lot(0, 200) = 0", "meanBits(0) = 0", "dip(0, 0) = 500",
            "lot(0, 300) = 1", "meanBits(0) = " + mean(first, 2), "dip(1, 0) = 300", "lot(0, 100) = 2",
            "dip(2, 0) = 66", "meanBits(0) = " + mean(first + second + third, 3), "meanBits(1) = 0",
            "order(2500, 0, 0, 0) = 0", "hang(0, 0) = 1", "meanBits(0) = " + mean(first + second + third, 3),
            "sell(0, 0) = 200", "meanBits(0) = " + mean(second + third, 2), "meanBits(4) = -1");
        Calls.of("15: none left", "lot(0, 200) = 0", "order(0, 0, 0, 0) = 0", "hang(0, 0) = 1",
            "sell(0, 0) = 200", "meanBits(3) = -4", "meanBits(4) = -1", "alike(0) = 0", "orderOf(0, 6) = -4",
            "orderOf(0, 5) = 0");
    }
}
