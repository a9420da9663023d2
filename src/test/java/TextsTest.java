/** Promises 27 to 30: texts, their faults, and playing them. */
public final class TextsTest {
    public static void main(String[] args) {
        type();
        clearText();
        form();
        causes();
        causesInTurn();
        faultChangesNothing();
        play();
        Calls.end();
    }

    private static void type() {
        Calls.of("27: ranges", "type(31) = -1", "type(127) = -1", "type(-1) = -1", "type(65636) = -1",
            "count(11) = 0", "type(32) = 1", "type(126) = 2", "count(11) = 2", "count(10) = 0");
        Calls full = new Calls("27: sixty characters");
        for (int i = 1; i <= 60; i++) {
            full.then("type(59) = " + i);
        }
        full.then("type(59) = -3", "type(31) = -1", "type(127) = -1", "count(11) = 60", "clearText() = 60",
            "type(59) = 1");
    }

    private static void clearText() {
        Calls.of("28: clearText", "clearText() = 0", "type(100) = 1", "type(48) = 2", "clearText() = 2",
            "count(11) = 0", "clearText() = 0", "fault(0) = -4", "count(10) = 0", "type(101) = 1",
            "fault(0) = 0");
    }

    private static void isOfForm(String text, int works) {
        stage().then("text " + text, "fault(0) = -4", "fault(1) = -4", "fault(2) = -4", "fault(-1) = -1",
            "fault(3) = -1", "play() = " + works);
    }

    private static void isNotOfForm(String text, int place) {
        stage().then("text " + text, "fault(0) = " + place, "fault(1) = 1", "fault(2) = -4", "fault(-1) = -1",
            "fault(3) = -1", "play() = -2", "count(10) = 4", "count(9) = 0", "lotOf(0, 5) = 0");
    }

    private static Calls stage() {
        return Calls.of("29: form", "lot(0, 200) = 0", "vat(0, 10) = 0", "weigh(0, 1000) = 1000",
            "lot(1, 100) = 1", "order(0, 0, 0, 0) = 0");
    }

    private static void form() {
        isOfForm("r0;", 1);
        isOfForm("r00;r01;r1;", 3);
        isOfForm("d0,0;d00,00;d1,0;", 3);
        isOfForm("h0,0;t0;h1,1;s1,0;e0;", 5);
        isOfForm("e0;e0;e0;e0;e0;e0;e0;e0;e0;e0;e0;e0;e0;e0;e0;e0;e0;e0;e0;e0;", 20);
        String[] wrong = {"r", "r0", "r0,", "r;", "r000;", "r0,0;", "r 0;", "r0 ;", " r0;", ";", "x0;", "R0;",
            "d0;", "d0,", "d0,0", "d0,0,", "d0,000;", "d,0;", "d0,;", "d0;0;", "d0,0,0;", "d-1,0;", "d0.0;",
            "h0;", "h0,0", "t0,0;", "t", "e0,0;", "e+0;", "s0;", "s0,0", "0;", "d0,0:", "r/;", "r:;", "~0;"};
        for (String text : wrong) {
            isNotOfForm(text, 0);
        }
        isNotOfForm("r0;r", 3);
        isNotOfForm("r0; r0;", 3);
        isNotOfForm("r0;;", 3);
        isNotOfForm("d0,0;h0,0;;", 10);
        isNotOfForm("r0;d0,0;e0;D0,0;", 11);
        isNotOfForm("r0;x9;d9,9;", 3);
    }

    private static void fails(Calls stage, String text, int place, int cause) {
        stage.then("text " + text, "fault(0) = " + place, "fault(1) = 2", "fault(2) = " + cause, "play() = -2");
    }

    private static void causes() {
        Calls.of("29: form", "fault(0) = -4", "fault(1) = -4", "fault(2) = -4", "fault(3) = -1",
            "fault(-1) = -1");
        Calls stage = stage();
        fails(stage, "d2,0;", 0, -1);
        fails(stage, "d0,1;", 0, -1);
        fails(stage, "d99,99;", 0, -1);
        fails(stage, "r2;", 0, -1);
        fails(stage, "h0,2;", 0, -1);
        fails(stage, "h20,0;", 0, -1);
        fails(stage, "h0,1;", 0, -2);
        fails(stage, "t2;", 0, -1);
        fails(stage, "t0;", 0, -2);
        fails(stage, "e1;", 0, -1);
        fails(stage, "s0,1;", 0, -1);
        fails(stage, "s2,0;", 0, -1);
        fails(stage, "s0,0;", 0, -2);
        stage.then("count(10) = 4", "lot(1, 100) = 2", "lot(1, 100) = 3", "lot(1, 100) = 4", "lot(1, 100) = 5");
        fails(stage, "h1,1;h2,1;h3,1;h4,1;h5,1;", 20, -3);
        stage.then("text h1,1;h2,1;h3,1;h4,1;t2;h5,1;", "fault(0) = -4", "play() = 6", "count(3) = 4");
        Calls dry = Calls.of("29: a dry vat", "lot(0, 100) = 0", "vat(0, 10) = 0");
        fails(dry, "r0;d0,0;", 3, -2);
        dry.then("weigh(0, 1) = 1", "fault(0) = -4", "fault(1) = -4", "fault(2) = -4");
        fails(dry, "d0,0;e0;d0,0;", 8, -2);
    }

    private static void causesInTurn() {
        Calls stage = stage();
        fails(stage, "h0,0;d0,0;", 5, -2);
        fails(stage, "h0,0;r0;", 5, -2);
        fails(stage, "h0,0;h0,0;", 5, -2);
        fails(stage, "h0,0;s0,0;r0;", 10, -2);
        fails(stage, "h0,0;s0,0;h1,1;s1,0;", 15, -2);
        fails(stage, "d0,0;h0,0;s0,0;", 10, -2);
        fails(stage, "h0,0;t0;t0;", 8, -2);
        fails(stage, "r2;x", 0, -1);
        stage.then("text d0,;", "fault(1) = 1", "text r0;", "fault(1) = -4");
        stage.then("text r0;d0", "fault(0) = 3", "fault(1) = 1", "fault(2) = -4", "text h0,0;t0;d0,0;h0,0;",
            "fault(0) = -4", "play() = 4");
    }

    private static void faultChangesNothing() {
        stage().then("text d0,0;h0,0;", "fault(0) = -4", "lotOf(0, 5) = 0", "vatOf(0, 2) = 1000", "count(9) = 0",
            "count(10) = 4", "count(11) = 10", "fault(2) = -4", "lotOf(0, 9) = 0");
    }

    private static void play() {
        Calls.of("30: an empty text", "play() = 0", "count(10) = 1", "play() = 0", "count(10) = 2", "undo() = 1");
        stage().then("text d0,0;r0;h0,0;e0;", "play() = 4", "lotOf(0, 5) = 1", "lotOf(0, 3) = 450",
            "lotOf(0, 4) = 0", "vatOf(0, 2) = 0", "account(0, 5) = 550", "count(9) = 1", "count(10) = 4",
            "count(11) = 16", "play() = -2", "fault(0) = 0", "fault(2) = -2", "count(10) = 4", "undo() = 3",
            "lotOf(0, 5) = 0", "lotOf(0, 9) = 0", "vatOf(0, 2) = 1000", "account(0, 5) = 0", "count(9) = 0",
            "count(11) = 16", "play() = 4", "count(10) = 4");
        stage().then("text d0,0;d0,0;d1,0;x", "play() = -2", "vatOf(0, 2) = 1000", "lotOf(0, 9) = 0",
            "count(9) = 0", "undo() = 3", "count(7) = 0");
        Calls twelve = Calls.of("30: numbers of two digits", "order(0, 0, 0, 0) = 0");
        for (int i = 0; i < 20; i++) {
            twelve.then("lot(" + i % 2 + ", " + (100 + i) + ") = " + i);
        }
        twelve.then("text h12,0;h1,1;h19,01;t12;s19,00;", "play() = 5", "lotOf(12, 5) = 0", "lotOf(1, 5) = 1",
            "lotOf(19, 8) = 0", "text h20,0;", "fault(2) = -1", "text h10,0;", "play() = 1", "lotOf(10, 5) = 1");
        stage().then("text h1,1;s1,0;h0,0;t0;", "play() = 4", "lotOf(1, 8) = 0", "orderOf(0, 4) = 1",
            "count(6) = 1", "count(3) = 0");
    }
}
