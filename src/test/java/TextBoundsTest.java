/** The boundaries of texts, their faults and playing them, each sentence with a test of its own. Promises 27 to 30. */
public final class TextBoundsTest {
    private static final int[] OUT = {-1, Integer.MIN_VALUE, Integer.MAX_VALUE};
    private static final int FORM = 1;
    private static final int DEED = 2;
    private static final int NONE = -4;

    public static void main(String[] args) {
        characters();
        sixtyCharacters();
        emptying();
        emptiedText();
        whatOfFaults();
        noFault();
        firstSigns();
        digits();
        digitsOfSecondNumbers();
        commas();
        ends();
        oneOrTwoDigits();
        cutShort();
        places();
        lastPlace();
        firstFault();
        causes();
        aheadOfIt();
        playing();
        playingNothing();
        Calls.end();
    }

    private static void characters() {
        Calls house = Calls.of("27: character: 32 to 126", "type(31) = -1", "type(127) = -1", "type(0) = -1",
            "type(128) = -1", "type(255) = -1", "type(256) = -1", "type(65568) = -1", "type(65636) = -1",
            "type(-65504) = -1", "count(11) = 0");
        for (int character : OUT) {
            house.then("type(" + character + ") = -1");
        }
        for (int character = 32; character <= 126; character++) {
            house.then("clearText() = " + (character == 32 ? 0 : 1), "type(" + character + ") = 1");
        }
        house.then("type(127) = -1", "type(31) = -1", "count(11) = 1", "count(10) = 0");
    }

    private static void sixtyCharacters() {
        Calls house = Calls.of("27: LIMIT_REACHED if it has 60 characters", "count(11) = 0");
        for (int i = 1; i <= 60; i++) {
            house.then("type(" + (i == 60 ? 120 : 114) + ") = " + i, "count(11) = " + i);
        }
        house.then("type(59) = -3", "type(126) = -3", "type(32) = -3", "type(31) = -1", "type(127) = -1", "count(11) = 60",
            "fault(0) = 0", "clearText() = 60", "type(114) = 1");
        Calls twice = Calls.of("27: 60 again behind clearText", "lot(0, 100) = 0");
        for (int round = 0; round < 2; round++) {
            twice.then("text r0;r0;r0;r0;r0;r0;r0;r0;r0;r0;r0;r0;r0;r0;r0;r0;r0;r0;r0;r0;", "type(114) = -3",
                "fault(0) = -4", "play() = 20", "clearText() = 60", "count(11) = 0", "play() = 0");
        }
    }

    private static void emptying() {
        Calls.of("28: empties the text; returns the length it had", "clearText() = 0", "count(11) = 0", "type(114) = 1",
            "clearText() = 1", "clearText() = 0", "fault(0) = -4", "play() = 0", "count(10) = 1", "text e0;e0",
            "count(11) = 5", "clearText() = 5", "type(120) = 1", "fault(0) = 0", "fault(1) = 1", "clearText() = 1",
            "undo() = 0", "undo() = -2");
    }

    private static void emptiedText() {
        Calls.of("28: nothing of the text stays", "lot(0, 100) = 0", "vat(0, 10) = 0", "weigh(0, 9) = 9",
            "text d0,0;r0;e0;", "fault(0) = -4").then("text d0", "fault(0) = 0", "fault(1) = 1", "play() = -2",
            "text r0;", "fault(0) = -4", "play() = 1", "text d0,0", "fault(1) = 1", "text d", "fault(1) = 1",
            "text d0,", "fault(1) = 1", "clearText() = 3", "play() = 0", "lotOf(0, 9) = 0", "vatOf(0, 2) = 9");
    }

    private static Calls house() {
        return Calls.of("29: texts", "lot(0, 200) = 0", "lot(1, 200) = 1", "vat(0, 10) = 0", "weigh(0, 1600) = 1600",
            "order(0, 0, 0, 0) = 0");
    }

    /** A text on a house with two lots, a vat and an order has this fault; its place is -1 if it has none. */
    private static void isFault(String text, int place, int reason, int cause) {
        Calls stage = house().then("text " + text);
        if (place < 0) {
            stage.then("fault(0) = -4", "fault(1) = -4", "fault(2) = -4");
        } else {
            stage.then("fault(0) = " + place, "fault(1) = " + reason, "fault(2) = " + cause, "play() = -2");
        }
        stage.then("fault(-1) = -1", "fault(3) = -1", "count(9) = 0", "count(10) = 4", "count(11) = " + text.length(),
            "vatOf(0, 2) = 1600", "lotOf(0, 5) = 0");
    }

    private static void isForm(String text) {
        isFault(text, -1, 0, 0);
    }

    private static void isNotForm(String text) {
        isFault(text, 0, FORM, NONE);
    }

    private static void whatOfFaults() {
        Calls house = Calls.of("29: what: 0 to 2, also if the text has no fault", "fault(-1) = -1", "fault(3) = -1",
            "fault(0) = -4", "fault(1) = -4", "fault(2) = -4", "text x", "fault(-1) = -1", "fault(3) = -1",
            "fault(0) = 0", "fault(1) = 1", "fault(2) = -4", "text t0;", "fault(0) = 0", "fault(1) = 2", "fault(2) = -1",
            "fault(3) = -1");
        for (int what : OUT) {
            house.then("fault(" + what + ") = -1");
        }
    }

    private static void noFault() {
        Calls.of("29: NOT_FOUND if the text has no fault (also if it is empty)", "fault(0) = -4", "fault(1) = -4",
            "fault(2) = -4", "play() = 0", "lot(0, 100) = 0", "text r0;", "fault(0) = -4", "fault(1) = -4",
            "fault(2) = -4", "clearText() = 3", "fault(0) = -4");
        isForm("d0,0;");
        isForm("r0;");
        isForm("h0,0;");
        isForm("h0,0;t0;");
        isForm("e0;");
        isForm("h0,0;s0,0;");
    }

    /** Each character in the place of a letter: no other than d, r, h, t, e and s begins an order of work. */
    private static void firstSigns() {
        for (char sign = 32; sign <= 126; sign++) {
            boolean one = sign == 'r' || sign == 'e' || sign == 't';
            boolean two = sign == 'd' || sign == 'h' || sign == 's';
            if (!one) {
                isNotForm(sign + "0;");
            }
            if (!two) {
                isNotForm(sign + "0,0;");
            }
        }
        isFault("t0;", 0, DEED, -2);
        isFault("s0,0;", 0, DEED, -2);
    }

    private static void digits() {
        for (char sign = 32; sign <= 126; sign++) {
            if (sign < '0' || sign > '9') {
                isNotForm("r" + sign + ";");
                isNotForm("d" + sign + ",0;");
                isNotForm("e0" + (sign == ';' ? ' ' : sign) + ";");
                isNotForm("h" + sign + "0,0;");
            } else if (sign > '1') {
                isFault("r" + sign + ";", 0, DEED, -1);
                isFault("d" + sign + ",0;", 0, DEED, -1);
                isFault("e0" + sign + ";", 0, DEED, -1);
                isFault("h" + sign + "0,0;", 0, DEED, -1);
            }
        }
    }

    private static void digitsOfSecondNumbers() {
        for (char sign = 32; sign <= 126; sign++) {
            if (sign < '0' || sign > '9') {
                isNotForm("d0," + sign + ";");
                isNotForm("d0,0" + (sign == ';' ? ' ' : sign) + ";");
                isNotForm("d0," + sign + "0;");
            } else if (sign > '1') {
                isFault("d0," + sign + ";", 0, DEED, -1);
                isFault("h0," + sign + "0;", 0, DEED, -1);
                isFault("s0,0" + sign + ";", 0, DEED, -1);
            }
        }
    }

    private static void commas() {
        for (char sign = 32; sign <= 126; sign++) {
            if (sign != ',') {
                isNotForm("d0" + sign + "0;");
                isNotForm("h00" + sign + "00;");
            }
        }
    }

    private static void ends() {
        for (char sign = 32; sign <= 126; sign++) {
            if (sign != ';') {
                isNotForm("r0" + sign);
                isNotForm("r00" + sign);
                isNotForm("d0,0" + sign);
                isNotForm("d00,00" + sign);
            }
        }
        isNotForm(";");
        isFault("r0;;", 3, FORM, NONE);
        isFault("r0; ", 3, FORM, NONE);
        isFault("r0;;r0;", 3, FORM, NONE);
    }

    private static void oneOrTwoDigits() {
        isForm("r1;");
        isForm("r01;");
        isForm("r00;");
        isNotForm("r;");
        isNotForm("r001;");
        isNotForm("r000;");
        isForm("d1,0;");
        isForm("d01,00;");
        isForm("d1,00;");
        isNotForm("d001,0;");
        isNotForm("d,0;");
        isNotForm("d0,;");
        isNotForm("d0,000;");
        isNotForm("d,;");
        isNotForm("h,0;");
        isNotForm("s0,000;");
        isNotForm("e;");
        isNotForm("e000;");
        isNotForm("t;");
        isNotForm("t000;");
        isFault("r99;", 0, DEED, -1);
        isFault("r20;", 0, DEED, -1);
        isFault("r10;", 0, DEED, -1);
        Calls.of("29: a number is its digits", Stages.full()).then("text r10;r09;r9;r11;r19;", "fault(0) = -4",
            "play() = 5", "text r20;", "fault(2) = -1", "text r18;", "fault(2) = -2", "text d10,4;d11,04;",
            "fault(0) = -4", "play() = 2", "lotOf(10, 9) = 1", "lotOf(11, 9) = 1", "lotOf(1, 9) = 0");
    }

    /** An order of work that ends too early, wherever it ends. */
    private static void cutShort() {
        for (String work : new String[] {"d0,0;", "d00,00;", "h0,0;", "s0,0;", "r0;", "r00;", "t0;", "e0;", "e00;"}) {
            for (int length = 1; length < work.length(); length++) {
                isNotForm(work.substring(0, length));
                isFault("e0;" + work.substring(0, length), 3, FORM, NONE);
            }
        }
    }

    private static void places() {
        isFault("x", 0, FORM, NONE);
        isFault("r0;x", 3, FORM, NONE);
        isFault("r00;x", 4, FORM, NONE);
        isFault("d0,0;d", 5, FORM, NONE);
        isFault("d00,00;d0", 7, FORM, NONE);
        isFault("h0,0;t0;r0;d0,0;e0;r0;t0;", 22, DEED, -2);
        isFault("h0,0;r0;", 5, DEED, -2);
        isFault("e0;e00;e1;", 7, DEED, -1);
    }

    /** Texts of 60 characters: without a fault, and with a fault in the last order of work. */
    private static void lastPlace() {
        String nineteen = "e0;e0;e0;e0;e0;e0;e0;e0;e0;e0;e0;e0;e0;e0;e0;e0;e0;e0;e0;";
        isForm(nineteen + "e0;");
        isFault(nineteen + "e1;", 57, DEED, -1);
        isFault(nineteen + "t0;", 57, DEED, -2);
        isFault(nineteen + "e00", 57, FORM, NONE);
        isFault(nineteen + "e0,", 57, FORM, NONE);
        isFault(nineteen + "e0", 57, FORM, NONE);
        isFault(nineteen + "e", 57, FORM, NONE);
        isForm(nineteen);
        isFault(nineteen.substring(3) + "r0;d0;", 57, FORM, NONE);
        isFault(nineteen.substring(3) + "r00;r0", 58, FORM, NONE);
        isFault(nineteen.substring(3) + "r00;;;", 58, FORM, NONE);
        isFault(nineteen.substring(3) + "r00;e;", 58, FORM, NONE);
        isFault(nineteen.substring(3) + "d0,0;x", 54, DEED, -2);
        Calls.of("30: a text of 60 characters", "vat(0, 10) = 0").then("text " + nineteen + "e0;", "play() = 20",
            "count(11) = 60", "count(10) = 2");
        Calls.of("30: whose last order of work is wrong", "vat(0, 10) = 0", "weigh(0, 9) = 9").then(
            "text " + nineteen + "e00", "play() = -2", "vatOf(0, 2) = 9", "count(10) = 2");
    }

    private static void firstFault() {
        isFault("t0;x", 0, DEED, -2);
        isFault("x;t0;", 0, FORM, NONE);
        isFault("r0;t0;h0,2;x", 3, DEED, -2);
        isFault("r0;h0,2;t0;", 3, DEED, -1);
        isFault("r0;x0;h0,2;", 3, FORM, NONE);
        isFault("r2;r", 0, DEED, -1);
    }

    private static void causes() {
        isFault("d2,0;", 0, DEED, -1);
        isFault("d0,1;", 0, DEED, -1);
        isFault("h0,0;d0,0;", 5, DEED, -2);
        isFault("e0;d0,0;", 3, DEED, -2);
        isFault("h0,0;d0,1;", 5, DEED, -1);
        isFault("r2;", 0, DEED, -1);
        isFault("h0,0;r0;", 5, DEED, -2);
        isFault("h0,1;", 0, DEED, -2);
        isFault("h0,2;", 0, DEED, -1);
        isFault("h2,0;", 0, DEED, -1);
        isFault("h0,0;h0,0;", 5, DEED, -2);
        isFault("t2;", 0, DEED, -1);
        isFault("h0,0;t0;t0;", 8, DEED, -2);
        isFault("e1;", 0, DEED, -1);
        isFault("s0,0;", 0, DEED, -2);
        isFault("s0,1;", 0, DEED, -1);
        isFault("s2,0;", 0, DEED, -1);
        isFault("d0,0;h0,0;s0,0;", 10, DEED, -2);
        isFault("h0,0;s0,0;h1,1;s1,0;", 15, DEED, -2);
        Calls rack = new Calls("29: LIMIT_REACHED in a text");
        for (int i = 0; i < 5; i++) {
            rack.then("lot(0, 100) = " + i);
        }
        rack.then("text h0,0;h1,0;h2,0;h3,0;", "fault(0) = -4", "type(104) = 21", "type(52) = 22", "type(44) = 23",
            "type(48) = 24", "fault(1) = 1", "fault(2) = -4", "type(59) = 25", "fault(0) = 20", "fault(1) = 2",
            "fault(2) = -3", "play() = -2", "count(3) = 0", "text h0,0;h1,0;h2,0;h3,0;t1;h4,0;", "fault(0) = -4",
            "play() = 6", "count(3) = 4", "lotOf(1, 5) = 0", "lotOf(4, 5) = 1", "text h1,0;", "fault(2) = -3",
            "text h1,1;", "fault(2) = -2", "text h1,2;", "fault(2) = -1");
    }

    /** The orders of work ahead of one are done for it, and the state of the house itself stays. */
    private static void aheadOfIt() {
        isForm("h0,0;t0;d0,0;r0;h0,0;");
        isForm("h0,0;s0,0;h1,1;t1;");
        isFault("h0,0;s0,0;t0;", 10, DEED, -2);
        isFault("d0,0;e0;d1,0;", 8, DEED, -2);
        Calls.of("29: as the house is now", "lot(0, 100) = 0", "text t0;", "fault(2) = -2", "hang(0, 0) = 1",
            "fault(2) = -4", "fault(0) = -4", "take(0) = 0", "fault(2) = -2", "undo() = 2", "fault(0) = -4", "play() = 1",
            "fault(2) = -2", "play() = -2");
        Calls.of("29: a lot that its text spoils does not fit", "vat(0, 10) = 0", "weigh(0, 400) = 400",
            "lot(0, 200) = 0", "order(1000, 0, 0, 0) = 0", "text d0,0;h0,0;s0,0;", "fault(0) = -4", "set(3, 999) = 8000",
            "fault(0) = 10", "fault(2) = -2", "lotOf(0, 6) = 0", "set(3, 1000) = 999", "play() = 3", "lotOf(0, 8) = 0");
    }

    private static void playing() {
        house().then("text d0,0;r0;h0,0;e0;d1,0;", "fault(0) = 16", "play() = -2", "count(10) = 4", "lotOf(0, 9) = 0",
            "vatOf(0, 2) = 1600", "account(0, 5) = 0", "text d0,0;r0;h0,0;e0;", "play() = 4", "count(10) = 4",
            "lotOf(0, 3) = 720", "lotOf(0, 4) = 0", "lotOf(0, 5) = 1", "vatOf(0, 2) = 0", "account(0, 5) = 880",
            "count(11) = 16", "undo() = 3", "lotOf(0, 3) = 0", "lotOf(0, 5) = 0", "vatOf(0, 2) = 1600",
            "account(0, 5) = 0", "count(9) = 0", "count(11) = 16", "play() = 4", "undo() = 3", "undo() = 2");
        Calls.of("30: one change, however many orders of work there are", "lot(0, 100) = 0", "order(0, 0, 0, 0) = 0",
            "text h0,0;t0;h0,0;s0,0;", "play() = 4", "count(10) = 3", "lotOf(0, 8) = 0", "undo() = 2", "count(3) = 0",
            "text r0;", "play() = 1", "count(10) = 3", "play() = 1", "count(10) = 4", "play() = 1", "count(10) = 4");
    }

    private static void playingNothing() {
        Calls.of("30: also if there are none", "play() = 0", "count(10) = 1", "play() = 0", "play() = 0", "play() = 0",
            "count(10) = 4", "play() = 0", "count(10) = 4", "undo() = 3", "undo() = 2", "undo() = 1", "undo() = 0",
            "undo() = -2");
        Calls.of("30: and drops the oldest state", "set(0, 1) = 20", "set(0, 2) = 1", "set(0, 3) = 2", "set(0, 4) = 3",
            "play() = 0", "count(10) = 4", "undo() = 3", "count(20) = 4", "undo() = 2", "undo() = 1", "undo() = 0",
            "count(20) = 1", "undo() = -2");
    }
}
