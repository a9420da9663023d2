/** The boundaries of lots, dips and racks, each sentence with a test of its own. Promises 7 to 15. */
public final class LotBoundsTest {
    private static final int[] OUT = {-1, Integer.MIN_VALUE, Integer.MAX_VALUE};

    public static void main(String[] args) {
        cloths();
        weights();
        twentyLots();
        blankLots();
        lotNumbers();
        takenRoundedDown();
        linenAndWool();
        looseRoundedDown();
        dirtRoundedUp();
        dirtOfEachDip();
        vatOfNoDye();
        dipNotPossible();
        dirtSpoils();
        depthSpoils();
        onlyDipsSpoil();
        savedByBlack();
        savedInOneDip();
        notSaved();
        darkStaysGood();
        Calls.end();
    }

    private static void cloths() {
        Calls house = Calls.of("7: cloth: 0 linen, 1 wool", "lot(-1, 100) = -1", "lot(2, 100) = -1", "count(1) = 0",
            "count(10) = 0", "lot(0, 100) = 0", "lot(1, 100) = 1", "lotOf(0, 0) = 0", "lotOf(1, 0) = 1");
        for (int cloth : OUT) {
            house.then("lot(" + cloth + ", 100) = -1");
        }
        house.then("count(1) = 2");
    }

    private static void weights() {
        Calls house = Calls.of("7: weight: 100 to 5000", "lot(0, 99) = -1", "lot(0, 100) = 0", "lot(1, 101) = 1",
            "lot(1, 4999) = 2", "lot(1, 5000) = 3", "lot(1, 5001) = -1", "lot(0, 0) = -1", "lotOf(0, 1) = 100",
            "lotOf(1, 1) = 101", "lotOf(2, 1) = 4999", "lotOf(3, 1) = 5000");
        for (int weight : OUT) {
            house.then("lot(1, " + weight + ") = -1");
        }
        house.then("count(1) = 4", "count(10) = 4");
    }

    private static void twentyLots() {
        Calls house = new Calls("7: at most 20 lots, numbered from 0");
        for (int i = 0; i < 20; i++) {
            house.then("count(1) = " + i, "lotOf(" + i + ", 1) = -1", "lot(" + i % 2 + ", " + (100 + i) + ") = " + i,
                "lotOf(" + i + ", 1) = " + (100 + i));
        }
        house.then("lot(0, 100) = -3", "lot(1, 5000) = -3", "count(1) = 20", "lotOf(20, 1) = -1", "undo() = 3",
            "count(1) = 19", "lot(1, 300) = 19", "lotOf(19, 1) = 300", "lot(0, 100) = -3", "order(0, 0, 0, 0) = 0",
            "hang(19, 1) = 1", "sell(19, 0) = 300", "count(2) = 19", "count(1) = 20", "lot(0, 100) = -3");
    }

    private static void blankLots() {
        Calls house = Calls.of("7: a lot without dye", "lot(1, 250) = 0");
        for (int what = 2; what <= 9; what++) {
            house.then("lotOf(0, " + what + ") = " + (what == 8 ? -4 : 0));
        }
        for (int dye = 0; dye < 4; dye++) {
            house.then("shade(0, " + dye + ") = 0", "shadeBits(0, " + dye + ") = 0", "meanBits(" + dye + ") = 0",
                "account(" + dye + ", 2) = 0", "account(" + dye + ", 3) = 0");
        }
        Calls.of("7: also where a lot was that was taken back", "vat(3, 10) = 0", "weigh(0, 4000) = 4000",
            "order(0, 0, 0, 20000) = 0", "set(3, 100) = 8000", "set(4, 2000) = 150", "lot(1, 2000) = 0",
            "text d0,0;", "play() = 1", "lotOf(0, 2) = 1904", "lotOf(0, 6) = 1", "undo() = 3", "undo() = 2",
            "lot(0, 100) = 0", "lotOf(0, 0) = 0", "lotOf(0, 1) = 100", "lotOf(0, 2) = 0", "lotOf(0, 3) = 0",
            "lotOf(0, 4) = 0", "lotOf(0, 5) = 0", "lotOf(0, 6) = 0", "lotOf(0, 7) = 0", "lotOf(0, 8) = -4",
            "lotOf(0, 9) = 0", "count(9) = 0");
    }

    private static void lotNumbers() {
        String[] calls = {"dip(#, 0)", "rinse(#)", "hang(#, 0)", "take(#)", "lotOf(#, 1)", "shade(#, 0)",
            "shadeBits(#, 0)", "sell(#, 0)", "match(#, 0)", "match(0, #)", "plan(#, 0, -1)", "takes(#, 0, 1)"};
        for (String call : calls) {
            Calls house = Calls.of("8 to 22: number of the lot: " + call, "vat(0, 10) = 0", "weigh(0, 900) = 900",
                "order(0, 0, 0, 0) = 0", call.replace("#", "0") + " = -1", "lot(0, 200) = 0",
                call.replace("#", "1") + " = -1", "lot(0, 300) = 1", call.replace("#", "2") + " = -1",
                call.replace("#", "20") + " = -1");
            for (int number : OUT) {
                house.then(call.replace("#", "" + number) + " = -1");
            }
            house.then("count(9) = 0", "count(3) = 0", "count(6) = 0", "count(10) = 4", "rinse(1) = 0",
                "hang(1, 0) = 1", "match(1, 1) = 1", "plan(1, 0, -1) = 0", "takes(1, 0, 1) = 540", "take(1) = 0",
                "dip(1, 0) = 540", "shade(1, 0) = 1800", "lotOf(1, 1) = 300");
        }
    }

    /** One dip of a lot into a vat of ten litres, which takes half of the grains if the lot draws 200. */
    private static Calls dipped(String title, int cloth, int weight, int grains, int taken) {
        return Calls.of(title, "vat(0, 10) = 0", "weigh(0, " + grains + ") = " + grains,
            "lot(" + cloth + ", " + weight + ") = 0", "takes(0, 0, 1) = " + taken, "dip(0, 0) = " + taken,
            "vatOf(0, 2) = " + (grains - taken));
    }

    private static void takenRoundedDown() {
        String title = "8: it takes g * r * w / (r * w + (the setting 0) * l) grains, rounded down";
        dipped(title, 0, 200, 2, 1);
        dipped(title, 0, 200, 3, 1);
        dipped(title, 0, 200, 4, 2);
        dipped(title, 0, 200, 1, 0);
        dipped(title, 0, 100, 299, 99);
        dipped(title, 0, 100, 300, 100);
        dipped(title, 0, 5000, 26, 25);
        dipped(title, 0, 5000, 25, 24);
        dipped(title, 0, 5000, 100000, 96153);
        Calls.of("8: the least and the greatest setting 0", "vat(0, 10) = 0", "vat(0, 1000) = 1", "weigh(0, 1020) = 1020",
            "weigh(1, 100000) = 100000", "lot(0, 500) = 0", "set(0, 1) = 20", "dip(0, 0) = 1000", "dip(0, 1) = 33333",
            "set(0, 100) = 1", "weigh(0, 980) = 1000", "dip(0, 0) = 333", "dip(0, 1) = 331", "vatOf(1, 2) = 66336");
        Calls most = Calls.of("8: more than an int holds on the way", "vat(2, 10) = 0", "set(0, 1) = 20", "lot(1, 5000) = 0");
        for (int i = 1; i <= 10; i++) {
            most.then("weigh(0, 100000) = " + 100000 * i);
        }
        most.then("takes(0, 0, 2) = 999999", "dip(0, 0) = 999000", "shade(0, 2) = 199800", "lotOf(0, 2) = 199800",
            "lotOf(0, 3) = 899100", "lotOf(0, 4) = 99900", "vatOf(0, 2) = 1000");
        Calls heavy = Calls.of("8: the greatest shade", "vat(2, 10) = 0", "set(0, 1) = 20", "lot(1, 100) = 0");
        for (int i = 1; i <= 10; i++) {
            heavy.then("weigh(0, 100000) = " + 100000 * i);
        }
        heavy.then("dip(0, 0) = 952380", "dip(0, 0) = 45352", "dip(0, 0) = 2160", "shade(0, 2) = 9998920",
            "lotOf(0, 2) = 9998920", "order(0, 0, 0, 0) = 0", "orderOf(0, 6) = 0", "plan(0, 0, -1) = -4");
    }

    private static void linenAndWool() {
        String title = "8: r is 1 for linen and 2 for wool";
        dipped(title, 0, 200, 1000, 500);
        dipped(title, 1, 100, 1000, 500);
        dipped(title, 1, 200, 1000, 666);
        dipped(title, 0, 100, 1000, 333);
        dipped(title, 0, 400, 1000, 666);
    }

    /** A dip that takes so many grains, of which so many are loose. */
    private static void loose(int ofHundred, int taken, int loose) {
        Calls.of("8: (these) * (the setting 5) / 100 are loose, rounded down", "vat(1, 10) = 0",
            "weigh(0, " + 2 * taken + ") = " + 2 * taken, "lot(0, 200) = 0", "set(5, " + ofHundred + ") = 10",
            "dip(0, 0) = " + taken, "lotOf(0, 4) = " + loose, "lotOf(0, 3) = " + (taken - loose),
            "account(1, 3) = " + loose, "account(1, 2) = " + (taken - loose), "rinse(0) = " + loose);
    }

    private static void looseRoundedDown() {
        loose(10, 9, 0);
        loose(10, 10, 1);
        loose(10, 19, 1);
        loose(10, 20, 2);
        loose(0, 10000, 0);
        loose(1, 99, 0);
        loose(1, 100, 1);
        loose(50, 1, 0);
        loose(50, 2, 1);
        loose(50, 3, 1);
        loose(33, 3, 0);
        loose(33, 4, 1);
        loose(49, 50000, 24500);
    }

    private static void dirt(int weight, int ofKilogram, int dirt) {
        Calls.of("8: dirt by w * (the setting 1) / 1000, rounded up", "vat(0, 10) = 0", "weigh(0, 90) = 90",
            "lot(0, " + weight + ") = 0", "set(1, " + ofKilogram + ") = 5", "hang(0, 0) = 1", "take(0) = 0",
            "vatOf(0, 3) = 0").then("text d0,0;", "play() = 1", "vatOf(0, 3) = " + dirt);
    }

    private static void dirtRoundedUp() {
        dirt(200, 5, 1);
        dirt(201, 5, 2);
        dirt(199, 5, 1);
        dirt(100, 5, 1);
        dirt(400, 5, 2);
        dirt(999, 1, 1);
        dirt(1000, 1, 1);
        dirt(1001, 1, 2);
        dirt(5000, 1, 5);
        dirt(4001, 1, 5);
        dirt(4000, 1, 4);
        dirt(100, 0, 0);
        dirt(5000, 0, 0);
        dirt(100, 9, 1);
        dirt(100, 10, 1);
        dirt(101, 10, 2);
        dirt(5000, 50, 250);
        dirt(4981, 50, 250);
        dirt(4980, 50, 249);
    }

    private static void dirtOfEachDip() {
        Calls.of("8: dirt is rounded up at each dip", "vat(0, 10) = 0", "weigh(0, 9000) = 9000", "lot(0, 100) = 0",
            "lot(1, 100) = 1", "dip(0, 0) = 3000", "vatOf(0, 3) = 1", "dip(0, 0) = 2000", "vatOf(0, 3) = 2",
            "dip(1, 0) = 2000", "vatOf(0, 3) = 3", "takes(1, 0, 30) = 1999", "vatOf(0, 3) = 3");
    }

    private static void vatOfNoDye() {
        Calls.of("8: NOT_POSSIBLE if the vat has no dye: one grain is dye", "vat(0, 10) = 0", "vat(1, 10) = 1",
            "lot(0, 100) = 0", "dip(0, 0) = -2", "lotOf(0, 9) = 0", "weigh(0, 1) = 1", "dip(0, 0) = 0",
            "lotOf(0, 9) = 1", "count(9) = 1", "vatOf(0, 2) = 1", "vatOf(0, 3) = 1", "dip(0, 1) = -2", "drain(0) = 1",
            "dip(0, 0) = -2", "count(9) = 1", "lotOf(0, 9) = 1", "count(10) = 4");
    }

    private static void dipNotPossible() {
        Calls.of("8: NOT_POSSIBLE if it is sold or hangs", "vat(0, 10) = 0", "weigh(0, 900) = 900", "lot(0, 200) = 0",
            "order(0, 0, 0, 0) = 0", "hang(0, 0) = 1", "dip(0, 0) = -2", "rinse(0) = -2", "take(0) = 0",
            "takes(0, 0, 1) = 450", "hang(0, 0) = 1", "sell(0, 0) = 200", "dip(0, 0) = -2", "rinse(0) = -2",
            "vatOf(0, 2) = 900", "vatOf(0, 3) = 0", "count(9) = 0", "undo() = 3", "undo() = 2", "dip(0, 0) = 450",
            "rinse(0) = 45");
    }

    private static void dirtSpoils() {
        Calls house = Calls.of("8: spoiled if the dirt of the vat ahead of the dip is above the setting 2",
            "vat(0, 1000) = 0", "weigh(0, 90000) = 90000", "lot(0, 220) = 0", "lot(0, 200) = 1", "lot(0, 200) = 2",
            "lot(0, 200) = 3", "set(1, 50) = 5", "set(2, 11) = 200");
        house.then("dip(0, 0) = 979", "vatOf(0, 3) = 11", "lotOf(0, 6) = 0", "dip(1, 0) = 881", "vatOf(0, 3) = 21",
            "lotOf(1, 6) = 0", "set(2, 21) = 11", "dip(2, 0) = 872", "vatOf(0, 3) = 31", "lotOf(2, 6) = 0",
            "set(2, 30) = 21", "dip(3, 0) = 864", "lotOf(3, 6) = 1", "count(4) = 1", "lotOf(0, 6) = 0");
        Calls.of("8: the dirt of the dip itself comes behind it", "vat(0, 1000) = 0", "weigh(0, 90000) = 90000",
            "lot(0, 5000) = 0", "set(1, 50) = 5", "set(2, 10) = 200", "dip(0, 0) = 18000", "vatOf(0, 3) = 250",
            "lotOf(0, 6) = 0", "drain(0) = 72000", "weigh(0, 100) = 100", "dip(0, 0) = 20", "lotOf(0, 6) = 0",
            "dip(0, 0) = 16", "lotOf(0, 6) = 1");
    }

    private static void depth(int cloth, int weight, int grains, int bound, int depth, int spoiled) {
        Calls.of("8: spoiled if its depth behind the dip is above the setting 3", "vat(0, 10) = 0",
            "weigh(0, " + grains + ") = " + grains, "lot(" + cloth + ", " + weight + ") = 0",
            "set(3, " + bound + ") = 8000", "lotOf(0, 6) = 0", "text d0,0;", "play() = 1", "lotOf(0, 2) = " + depth,
            "lotOf(0, 6) = " + spoiled, "count(4) = " + spoiled);
    }

    private static void depthSpoils() {
        depth(0, 200, 400, 1000, 1000, 0);
        depth(0, 200, 400, 999, 1000, 1);
        depth(0, 200, 400, 1001, 1000, 0);
        depth(0, 200, 400, 20000, 1000, 0);
        depth(0, 300, 334, 666, 666, 0);
        depth(0, 300, 334, 665, 666, 1);
        depth(1, 100, 20, 100, 100, 0);
        depth(1, 100, 22, 100, 110, 1);
        depth(0, 200, 8000, 20000, 20000, 0);
        depth(0, 200, 8002, 20000, 20005, 1);
        depth(0, 200, 3200, 8000, 8000, 0);
        depth(0, 200, 3202, 8000, 8005, 1);
        Calls.of("8: the first setting 3 is 8000", "vat(0, 10) = 0", "weigh(0, 3200) = 3200", "lot(0, 200) = 0",
            "lot(0, 200) = 1", "dip(0, 0) = 1600", "lotOf(0, 6) = 0", "weigh(0, 1602) = 3202", "dip(1, 0) = 1601",
            "lotOf(1, 6) = 1");
        Calls.of("8: its depth is that of all its dyes, fixed and loose", "vat(0, 10) = 0", "vat(1, 10) = 1",
            "weigh(0, 2) = 2", "weigh(1, 4) = 4", "lot(1, 400) = 0", "dip(0, 0) = 1", "dip(0, 1) = 3", "shade(0, 0) = 2",
            "shade(0, 1) = 7", "lotOf(0, 2) = 10", "set(3, 100) = 8000", "weigh(0, 48) = 49", "dip(0, 0) = 39",
            "lotOf(0, 2) = 107", "lotOf(0, 6) = 1", "lotOf(0, 4) = 3", "shade(0, 0) = 100");
    }

    private static void onlyDipsSpoil() {
        Calls.of("8: spoiled by a dip alone, and for good", "vat(0, 10) = 0", "weigh(0, 400) = 400", "lot(0, 200) = 0",
            "dip(0, 0) = 200", "set(3, 100) = 8000", "lotOf(0, 6) = 0", "rinse(0) = 20", "lotOf(0, 6) = 0",
            "hang(0, 0) = 1", "take(0) = 0", "lotOf(0, 6) = 0", "dip(0, 0) = 100", "lotOf(0, 6) = 1",
            "set(3, 20000) = 100", "lotOf(0, 6) = 1", "rinse(0) = 10", "hang(0, 0) = 1", "take(0) = 0", "dip(0, 0) = 50",
            "lotOf(0, 6) = 1", "drain(0) = 50", "lotOf(0, 6) = 1", "count(4) = 1");
    }

    private static void savedByBlack() {
        String title = "8: saved if its shade of black behind the dip is at least the setting 6";
        int[][] cases = {{2000, 1}, {1999, 1}, {2001, 0}, {0, 1}, {20000, 0}};
        for (int[] one : cases) {
            Calls.of(title, "vat(0, 10) = 0", "vat(3, 10) = 1", "weigh(0, 400) = 400", "weigh(1, 800) = 800",
                "lot(0, 200) = 0", "set(3, 999) = 8000", "set(6, " + one[0] + ") = 2000", "dip(0, 0) = 200",
                "lotOf(0, 6) = 1", "lotOf(0, 7) = 0", "dip(0, 1) = 400", "shade(0, 3) = 2000",
                "lotOf(0, 6) = " + (1 - one[1]), "lotOf(0, 7) = " + one[1], "count(5) = " + one[1]);
        }
        Calls.of("8: a shade that is rounded down", "vat(0, 10) = 0", "vat(3, 10) = 1", "weigh(0, 500) = 500",
            "weigh(1, 334) = 334", "lot(0, 300) = 0", "set(3, 100) = 8000", "dip(0, 0) = 300", "set(6, 667) = 2000",
            "dip(0, 1) = 200", "shade(0, 3) = 666", "lotOf(0, 6) = 1", "undo() = 3", "set(6, 666) = 667",
            "dip(0, 1) = 200", "lotOf(0, 6) = 0", "lotOf(0, 7) = 1");
        Calls.of("8: the greatest setting 6", "vat(3, 10) = 0", "weigh(0, 8000) = 8000", "lot(0, 200) = 0",
            "lot(0, 200) = 1", "set(6, 20000) = 2000", "weigh(0, 2) = 8002", "drain(0) = 8002", "weigh(0, 7998) = 7998",
            "dip(0, 0) = 3999", "shade(0, 3) = 19995", "lotOf(0, 6) = 1", "weigh(0, 4001) = 8000", "dip(1, 0) = 4000",
            "shade(1, 3) = 20000", "lotOf(1, 6) = 0", "lotOf(1, 7) = 1");
        Calls.of("8: fixed and loose grains of black together", "vat(0, 10) = 0", "vat(3, 10) = 1", "weigh(0, 400) = 400",
            "weigh(1, 400) = 400", "lot(0, 200) = 0", "set(3, 100) = 8000", "set(6, 1450) = 2000", "dip(0, 0) = 200",
            "dip(0, 1) = 200", "rinse(0) = 40", "shade(0, 3) = 900", "weigh(1, 20) = 220", "dip(0, 1) = 110",
            "shade(0, 3) = 1450", "lotOf(0, 6) = 0", "lotOf(0, 7) = 1");
    }

    private static void savedInOneDip() {
        Calls.of("8: also if it became so by this dip", "vat(3, 10) = 0", "weigh(0, 4000) = 4000", "lot(0, 200) = 0",
            "set(3, 9999) = 8000", "dip(0, 0) = 2000", "lotOf(0, 2) = 10000", "lotOf(0, 6) = 0", "lotOf(0, 7) = 1");
        Calls.of("8: by dirt, and saved by the same dip", "vat(3, 10) = 0", "weigh(0, 2000) = 2000", "lot(0, 220) = 0",
            "lot(0, 200) = 1", "set(1, 50) = 5", "set(2, 10) = 200", "set(6, 2380) = 2000", "dip(0, 0) = 1047",
            "lotOf(0, 7) = 0", "dip(1, 0) = 476", "shade(1, 3) = 2380", "lotOf(1, 6) = 0", "lotOf(1, 7) = 1");
        Calls.of("8: dirt spoils what its black does not save", "vat(3, 10) = 0", "weigh(0, 2000) = 2000",
            "lot(0, 220) = 0", "lot(0, 200) = 1", "set(1, 50) = 5", "set(2, 10) = 200", "set(6, 2381) = 2000",
            "dip(0, 0) = 1047", "dip(1, 0) = 476", "lotOf(1, 6) = 1", "lotOf(1, 7) = 0", "drain(0) = 477",
            "weigh(0, 1) = 1", "set(6, 2380) = 2381", "lotOf(1, 6) = 1", "dip(1, 0) = 0", "lotOf(1, 6) = 0",
            "lotOf(1, 7) = 1");
    }

    private static void notSaved() {
        Calls.of("8: not by a vat of another dye", "vat(3, 10) = 0", "vat(0, 10) = 1", "weigh(0, 1600) = 1600",
            "weigh(1, 900) = 900", "lot(0, 200) = 0", "dip(0, 0) = 800", "set(3, 100) = 8000", "shade(0, 3) = 4000",
            "lotOf(0, 6) = 0", "dip(0, 1) = 450", "lotOf(0, 6) = 1", "lotOf(0, 7) = 0", "dip(0, 1) = 225",
            "lotOf(0, 6) = 1", "dip(0, 0) = 400", "lotOf(0, 6) = 0", "lotOf(0, 7) = 1");
        for (int dye = 0; dye < 3; dye++) {
            Calls.of("8: not by the dye " + dye, "vat(" + dye + ", 10) = 0", "weigh(0, 16000) = 16000",
                "lot(0, 200) = 0", "set(6, 0) = 2000", "dip(0, 0) = 8000", "lotOf(0, 6) = 1", "lotOf(0, 7) = 0");
        }
        Calls.of("8: a lot that is not spoiled is not made dark", "vat(3, 10) = 0", "weigh(0, 1600) = 1600",
            "lot(0, 200) = 0", "set(6, 0) = 2000", "dip(0, 0) = 800", "lotOf(0, 6) = 0", "lotOf(0, 7) = 0",
            "count(5) = 0");
    }

    private static void darkStaysGood() {
        Calls.of("8: a dark lot never becomes spoiled", "vat(3, 10) = 0", "vat(0, 10) = 1", "weigh(0, 4000) = 4000",
            "weigh(1, 90000) = 90000", "lot(0, 220) = 0", "set(1, 50) = 5", "set(2, 10) = 200", "set(3, 100) = 8000",
            "dip(0, 0) = 2095", "lotOf(0, 7) = 1", "lotOf(0, 6) = 0", "dip(0, 1) = 47142", "lotOf(0, 6) = 0",
            "vatOf(1, 4) = 1", "set(6, 20000) = 2000", "dip(0, 1) = 22449", "lotOf(0, 6) = 0", "lotOf(0, 7) = 1",
            "vatOf(0, 4) = 1", "dip(0, 0) = 997", "lotOf(0, 6) = 0", "lotOf(0, 7) = 1", "count(4) = 0", "count(5) = 1");
    }
}
