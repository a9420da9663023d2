/** The boundaries of rinsing, racks, shades and their floats. Promises 9 to 15. */
public final class RackBoundsTest {
    private static final int[] OUT = {-1, Integer.MIN_VALUE, Integer.MAX_VALUE};

    public static void main(String[] args) {
        rinsing();
        racks();
        fourPlaces();
        placesThatBecomeFree();
        taking();
        whatOfLots();
        soldFor();
        shades();
        floats();
        means();
        meansOfTheHouse();
        Calls.end();
    }

    private static void rinsing() {
        Calls.of("9: all its loose grains come into the waste", "vat(0, 10) = 0", "vat(1, 10) = 1", "vat(2, 10) = 2",
            "vat(3, 10) = 3", "weigh(0, 200) = 200", "weigh(1, 400) = 400", "weigh(2, 600) = 600", "weigh(3, 800) = 800",
            "lot(0, 200) = 0", "lot(0, 200) = 1", "dip(0, 0) = 100", "dip(0, 1) = 200", "dip(0, 2) = 300",
            "dip(0, 3) = 400", "dip(1, 0) = 50", "rinse(0) = 100", "account(0, 5) = 10", "account(1, 5) = 20",
            "account(2, 5) = 30", "account(3, 5) = 40", "lotOf(0, 4) = 0", "lotOf(0, 3) = 900", "lotOf(1, 4) = 5",
            "lotOf(0, 9) = 4", "account(0, 3) = 5", "vatOf(0, 2) = 50", "rinse(0) = 0", "rinse(1) = 5",
            "account(0, 5) = 15");
        Calls.of("9: a lot without loose grains", "lot(0, 100) = 0", "rinse(0) = 0", "count(10) = 2", "rinse(0) = 0",
            "count(10) = 3");
        Calls.of("9: NOT_POSSIBLE if it is sold or hangs", "lot(1, 100) = 0", "order(0, 0, 0, 0) = 0", "hang(0, 1) = 1",
            "rinse(0) = -2", "count(10) = 3", "sell(0, 0) = 100", "rinse(0) = -2", "count(10) = 4");
    }

    private static void racks() {
        Calls house = Calls.of("10: rack: 0 or 1; rack 0 takes linen, rack 1 wool", "lot(0, 100) = 0", "lot(1, 100) = 1",
            "hang(0, -1) = -1", "hang(0, 2) = -1", "hang(1, 2) = -1", "hang(0, 1) = -2", "hang(1, 0) = -2",
            "count(3) = 0", "count(10) = 2", "hang(0, 0) = 1", "hang(1, 1) = 1", "count(3) = 2");
        for (int rack : OUT) {
            house.then("hang(0, " + rack + ") = -1", "hang(1, " + rack + ") = -1");
        }
        house.then("hang(0, 0) = -2", "hang(1, 1) = -2", "hang(0, 1) = -2", "hang(1, 0) = -2", "count(10) = 4");
    }

    private static void fourPlaces() {
        for (int rack = 0; rack < 2; rack++) {
            Calls house = new Calls("10: 4 places each, rack " + rack);
            for (int i = 0; i < 6; i++) {
                house.then("lot(" + rack + ", 100) = " + i);
            }
            house.then("lot(" + (1 - rack) + ", 100) = 6");
            for (int i = 0; i < 4; i++) {
                house.then("hang(" + i + ", " + rack + ") = " + (i + 1));
            }
            house.then("hang(4, " + rack + ") = -3", "hang(5, " + rack + ") = -3", "lotOf(4, 5) = 0", "count(3) = 4",
                "hang(3, " + rack + ") = -2", "hang(6, " + rack + ") = -2", "hang(4, " + (1 - rack) + ") = -2",
                "hang(4, 2) = -1", "count(10) = 4", "hang(6, " + (1 - rack) + ") = 1", "count(3) = 5");
        }
    }

    private static void placesThatBecomeFree() {
        Calls house = new Calls("10: a place is free again behind take, sell and undo");
        for (int i = 0; i < 8; i++) {
            house.then("lot(0, 100) = " + i);
        }
        house.then("order(0, 0, 0, 0) = 0", "hang(0, 0) = 1", "hang(1, 0) = 2", "hang(2, 0) = 3", "hang(3, 0) = 4",
            "hang(4, 0) = -3", "take(2) = 3", "hang(4, 0) = 4", "hang(2, 0) = -3", "sell(0, 0) = 100",
            "hang(2, 0) = 4", "hang(5, 0) = -3", "hang(0, 0) = -2", "undo() = 3", "hang(5, 0) = 4", "hang(2, 0) = -3");
    }

    private static void taking() {
        Calls.of("11: NOT_POSSIBLE if it does not hang", "lot(0, 100) = 0", "lot(1, 100) = 1", "lot(0, 100) = 2",
            "take(0) = -2", "hang(0, 0) = 1", "hang(1, 1) = 1", "hang(2, 0) = 2", "take(0) = 1", "take(0) = -2",
            "take(1) = 0", "take(1) = -2", "take(2) = 0", "take(2) = -2", "count(3) = 0");
        Calls.of("11: a sold lot does not hang", "lot(0, 100) = 0", "order(0, 0, 0, 0) = 0", "hang(0, 0) = 1",
            "lotOf(0, 5) = 1", "sell(0, 0) = 100", "lotOf(0, 5) = 0", "count(3) = 0", "take(0) = -2");
        Calls house = new Calls("11: how many lots hang on this rack then");
        for (int i = 0; i < 4; i++) {
            house.then("lot(0, 100) = " + 2 * i, "lot(1, 100) = " + (2 * i + 1));
        }
        for (int i = 0; i < 4; i++) {
            house.then("hang(" + 2 * i + ", 0) = " + (i + 1), "hang(" + (2 * i + 1) + ", 1) = " + (i + 1));
        }
        house.then("take(3) = 3", "take(1) = 2", "take(0) = 3", "take(7) = 1", "take(5) = 0", "count(3) = 3");
    }

    private static void whatOfLots() {
        Calls house = Calls.of("12: what: 0 to 9", "lot(1, 777) = 0", "lotOf(0, -1) = -1", "lotOf(0, 0) = 1",
            "lotOf(0, 1) = 777", "lotOf(0, 8) = -4", "lotOf(0, 9) = 0", "lotOf(0, 10) = -1", "lotOf(1, 8) = -1",
            "lotOf(-1, 8) = -1");
        for (int what : OUT) {
            house.then("lotOf(0, " + what + ") = -1", "lotOf(1, " + what + ") = -1");
        }
        Calls.of("12: its depth, rounded down, its fixed and loose grains, its dips", "vat(0, 10) = 0", "vat(1, 10) = 1",
            "weigh(0, 100) = 100", "weigh(1, 33) = 33", "lot(0, 300) = 0", "dip(0, 0) = 60", "dip(0, 1) = 19",
            "lotOf(0, 2) = 263", "lotOf(0, 3) = 72", "lotOf(0, 4) = 7", "lotOf(0, 9) = 2", "rinse(0) = 7",
            "lotOf(0, 2) = 240", "lotOf(0, 3) = 72", "lotOf(0, 4) = 0", "lotOf(0, 9) = 2", "takes(0, 0, 30) = 39",
            "lotOf(0, 9) = 2", "lot(0, 200) = 1", "dip(1, 0) = 20", "lotOf(0, 9) = 2", "lotOf(1, 9) = 1");
    }

    private static void soldFor() {
        Calls.of("12: the order for which it was sold; NOT_FOUND if it is not sold", "lot(0, 100) = 0",
            "lot(0, 100) = 1", "order(0, 0, 0, 0) = 0", "order(0, 0, 0, 0) = 1", "hang(0, 0) = 1", "hang(1, 0) = 2",
            "lotOf(0, 8) = -4", "lotOf(1, 8) = -4", "sell(1, 0) = 100", "lotOf(1, 8) = 0", "lotOf(0, 8) = -4",
            "sell(0, 1) = 100", "lotOf(0, 8) = 1", "undo() = 3", "lotOf(0, 8) = -4", "lotOf(1, 8) = 0");
    }

    private static void shades() {
        Calls house = Calls.of("13: dye: 0 to 3; INVALID_ARGUMENT if an argument is out of range", "lot(0, 100) = 0",
            "vat(0, 10) = 0", "shade(0, -1) = -1", "shade(0, 4) = -1", "shade(0, 0) = 0", "shade(0, 3) = 0",
            "shadeBits(0, -1) = -1", "shadeBits(0, 4) = -1", "shadeBits(0, 0) = 0", "shadeBits(0, 3) = 0",
            "meanBits(-1) = -1", "meanBits(4) = -1", "meanBits(0) = 0", "meanBits(3) = 0");
        for (int dye : OUT) {
            house.then("shade(0, " + dye + ") = -1", "shadeBits(0, " + dye + ") = -1", "meanBits(" + dye + ") = -1",
                "shade(1, " + dye + ") = -1", "shadeBits(1, " + dye + ") = -1");
        }
        Calls.of("13: 1000 * (fixed and loose grains together) / weight, rounded down", "vat(0, 1000) = 0",
            "vat(3, 10) = 1", "weigh(0, 21) = 21", "lot(0, 5000) = 0", "dip(0, 0) = 4", "shade(0, 0) = 0",
            "weigh(0, 8) = 25", "dip(0, 0) = 5", "shade(0, 0) = 1", "weigh(0, 5) = 25", "dip(0, 0) = 5",
            "shade(0, 0) = 2", "set(5, 50) = 10", "weigh(1, 4) = 4", "lot(0, 400) = 1", "dip(1, 1) = 2",
            "lotOf(1, 3) = 1", "lotOf(1, 4) = 1", "shade(1, 3) = 5", "lotOf(1, 2) = 5", "rinse(1) = 1",
            "shade(1, 3) = 2");
        Calls.of("13: each dye has its shade, of a sold lot too", "vat(0, 10) = 0", "vat(1, 10) = 1", "vat(2, 10) = 2",
            "vat(3, 10) = 3", "weigh(0, 40) = 40", "weigh(1, 80) = 80", "weigh(2, 120) = 120", "weigh(3, 160) = 160",
            "lot(0, 200) = 0", "dip(0, 0) = 20", "dip(0, 1) = 40", "dip(0, 2) = 60", "dip(0, 3) = 80",
            "order(100, 200, 300, 400) = 0", "hang(0, 0) = 1", "shade(0, 0) = 100", "shade(0, 1) = 200",
            "shade(0, 2) = 300", "shade(0, 3) = 400", "sell(0, 0) = 200", "shade(0, 0) = 100", "shade(0, 1) = 200",
            "shade(0, 2) = 300", "shade(0, 3) = 400", "shadeBits(0, 3) = " + bits(80, 200));
    }

    private static int bits(int grains, int weight) {
        return Float.floatToIntBits((float) grains / (float) weight);
    }

    /** A lot that takes so many grains out of a vat of 10 litres and the bath 20, and its float. */
    private static void isFloat(int cloth, int weight, int weighed, int taken) {
        Calls house = Calls.of("14: the grains as a float, divided by the weight as a float", "vat(1, 10) = 0",
            "lot(" + cloth + ", " + weight + ") = 0");
        int left = weighed;
        while (left > 0) {
            int part = Math.min(left, 100000);
            left -= part;
            house.then("weigh(0, " + part + ") = " + (weighed - left));
        }
        house.then("dip(0, 0) = " + taken, "shadeBits(0, 1) = " + bits(taken, weight),
            "meanBits(1) = " + bits(taken, weight), "shadeBits(0, 0) = 0", "meanBits(0) = 0");
    }

    private static void floats() {
        Calls.of("14: none, one, two, a half", "vat(0, 10) = 0", "weigh(0, 800) = 800", "lot(0, 200) = 0",
            "shadeBits(0, 0) = 0", "dip(0, 0) = 400", "shadeBits(0, 0) = 1073741824", "lot(0, 200) = 1",
            "dip(1, 0) = 200", "shadeBits(1, 0) = 1065353216", "lot(0, 200) = 2", "dip(2, 0) = 100",
            "shadeBits(2, 0) = 1056964608", "meanBits(0) = " + Float.floatToIntBits((float) (3.5 / 3)));
        isFloat(0, 5000, 2, 1);
        isFloat(0, 200, 398, 199);
        isFloat(0, 200, 402, 201);
        isFloat(0, 4999, 4999, 4806);
        isFloat(1, 100, 1000000, 500000);
        isFloat(1, 5000, 1000000, 980392);
        isFloat(0, 100, 1000000, 333333);
        isFloat(0, 3000, 16777, 15728);
        isFloat(1, 123, 7, 3);
        isFloat(0, 700, 90, 70);
        Calls.of("14: loose grains too, and fewer behind a rinse", "vat(0, 10) = 0", "weigh(0, 800) = 800",
            "lot(0, 200) = 0", "dip(0, 0) = 400", "shadeBits(0, 0) = " + bits(400, 200), "rinse(0) = 40",
            "shadeBits(0, 0) = " + bits(360, 200));
    }

    // The mean is another one where floats are added up, where the sum or the number is made a float
    // ahead of the division, and where the shades are doubles from the first: rows were sought for it.
    private static void means() {
        String title = "15: floats are added up in doubles, divided in doubles, and this is made a float";
        meanOf(title, 1060598003, new int[][] {{970, 1451, 1202}, {311, 458, 278}, {541, 13, 9}});
        meanOf(title, 1068163538, new int[][] {{693, 183, 142}, {437, 2032, 1394}, {803, 613, 490}});
        meanOf(title, 1076159422, new int[][] {{330, 1376, 856}, {125, 1605, 617}, {813, 203, 162}});
        meanOf(title, 1075297366, new int[][] {{437, 2789, 1913}, {927, 2447, 2012}, {627, 467, 354}});
    }

    /** The mean of lots of linen: the weight of each one, what is weighed in for it, and what it takes. */
    private static void meanOf(String title, int bits, int[][] lots) {
        Calls house = Calls.of(title, "vat(2, 10) = 0");
        double sum = 0;
        for (int i = 0; i < lots.length; i++) {
            int[] lot = lots[i];
            house.then("weigh(0, " + lot[1] + ") = " + lot[1], "lot(0, " + lot[0] + ") = " + i,
                "dip(" + i + ", 0) = " + lot[2], "drain(0) = " + (lot[1] - lot[2]));
            sum += (float) lot[2] / (float) lot[0];
        }
        house.then("meanBits(2) = " + bits, "meanBits(2) = " + Float.floatToIntBits((float) (sum / 3.0)),
            "meanBits(1) = 0");
    }

    private static void meansOfTheHouse() {
        Calls house = Calls.of("15: of all lots in the house; NOT_FOUND if none is", "meanBits(0) = -4", "meanBits(4) = -1",
            "vat(0, 10) = 0", "weigh(0, 800) = 800", "lot(0, 200) = 0", "meanBits(0) = 0", "dip(0, 0) = 400",
            "meanBits(0) = 1073741824", "lot(0, 100) = 1", "meanBits(0) = 1065353216", "order(2000, 0, 0, 0) = 0",
            "order(0, 0, 0, 0) = 1", "hang(0, 0) = 1", "hang(1, 0) = 2", "meanBits(0) = 1065353216");
        house.then("sell(1, 1) = 100", "meanBits(0) = 1073741824", "undo() = 3", "sell(0, 0) = 200", "meanBits(0) = 0",
            "sell(1, 1) = 100", "meanBits(0) = -4", "meanBits(3) = -4", "meanBits(4) = -1", "lot(1, 100) = 2",
            "meanBits(0) = 0");
        Calls spoiled = Calls.of("15: a spoiled lot is in the house", "vat(0, 10) = 0", "weigh(0, 800) = 800",
            "lot(0, 200) = 0", "set(3, 100) = 8000", "dip(0, 0) = 400", "lotOf(0, 6) = 1", "meanBits(0) = 1073741824");
        spoiled.then("lot(0, 200) = 1", "meanBits(0) = 1065353216");
    }
}
