import java.util.ArrayList;
import java.util.List;

/** Houses that several tests begin with, as rows of calls. */
final class Stages {
    private Stages() {
    }

    /**
     * All that is limited is full: 6 vats, all red that may be weighed in, 20 lots, both racks, 8
     * orders that are not served, the history, and the text. Vat 5 is dry; lot 3 is spoiled, lot 5
     * is dark, lot 18 is sold for order 0, and lots 8 (linen) and 9 (wool) do not hang.
     */
    static String[] full() {
        List<String> rows = new ArrayList<>(List.of("vat(0, 10) = 0", "vat(1, 10) = 1", "vat(2, 20) = 2",
            "vat(3, 10) = 3", "vat(0, 50) = 4", "vat(1, 1000) = 5", "weigh(0, 1000) = 1000",
            "weigh(2, 500) = 500", "weigh(3, 4000) = 4000", "weigh(4, 3000) = 3000"));
        for (int i = 1; i <= 10; i++) {
            rows.add("weigh(1, 100000) = " + 100000 * i);
        }
        for (int i = 0; i < 20; i++) {
            rows.add("lot(" + i % 2 + ", " + (100 + 10 * i) + ") = " + i);
        }
        rows.addAll(List.of("dip(3, 1) = 565217", "lotOf(3, 6) = 1", "dip(5, 3) = 2400", "lotOf(5, 7) = 1",
            "dip(18, 0) = 583", "order(2082, 0, 0, 0) = 0", "hang(18, 0) = 1", "sell(18, 0) = 280"));
        for (int i = 1; i <= 8; i++) {
            rows.add("order(0, 0, 0, " + (i == 8 ? 20000 : 100 * (i - 1)) + ") = " + i);
        }
        for (int i = 0; i < 8; i++) {
            rows.add("hang(" + i + ", " + i % 2 + ") = " + (i / 2 + 1));
        }
        rows.add("text e5;e5;e5;e5;e5;e5;e5;e5;e5;e5;e5;e5;e5;e5;e5;e5;e5;e5;e5;e5;");
        return rows.toArray(new String[0]);
    }

    /** A house with room in it, two states in its history, and the text given. */
    static String[] small(String text) {
        return new String[] {"vat(0, 10) = 0", "vat(3, 10) = 1", "weigh(0, 1000) = 1000", "undo() = 2",
            "undo() = 1", "undo() = 0", "vat(0, 10) = 0", "lot(0, 200) = 0", "text " + text};
    }
}
