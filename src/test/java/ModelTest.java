import java.lang.reflect.Method;
import java.util.Arrays;
import java.util.Map;
import java.util.TreeMap;

/** Long runs of calls on the program and on the model, which must answer alike. All promises. */
public final class ModelTest {
    private static final int RUNS = 1500;
    private static final int CALLS = 512;

    private static long seed = 20261119L;
    private static final Map<String, Method> METHODS = new TreeMap<>();
    private static final Map<String, Integer> SEEN = new TreeMap<>();

    private DarkVats object = new DarkVats();
    private Model model = new Model();
    private int run;
    private int call;
    private int palette;
    private int heavy = 40;

    public static void main(String[] args) {
        for (Method method : DarkVats.class.getDeclaredMethods()) {
            if (java.lang.reflect.Modifier.isPublic(method.getModifiers())) {
                METHODS.put(method.getName(), method);
            }
        }
        for (int run = 0; run < RUNS; run++) {
            new ModelTest().go(run);
        }
        if (args.length > 0) {
            SEEN.forEach((what, times) -> System.out.println(what + " " + times));
        }
        Calls.end();
    }

    private static int below(int bound) {
        seed = seed * 6364136223846793005L + 1442695040888963407L;
        return (int) ((seed >>> 33) % bound);
    }

    private static int from(int least, int most) {
        return least + below(most - least + 1);
    }

    private static boolean rarely() {
        return below(40) == 0;
    }

    private void go(int number) {
        run = number;
        palette = below(4);
        heavy = below(8) == 0 ? 2 : 40;
        int eager = below(3);
        for (int i = 0; i < (eager == 0 ? 0 : 3); i++) {
            ask("vat", anyDye(), litres());
            ask("weigh", i, grains());
            ask("lot", below(2), weight());
        }
        if (eager == 2) {
            ask("set", 4, from(500, 2000));
        }
        while (call < CALLS) {
            step();
        }
    }

    private int anyDye() {
        return rarely() ? from(-1, 4) : palette == 0 ? 3 * below(2) : below(4);
    }

    private int litres() {
        return rarely() ? from(8, 11) : rarely() ? from(999, 1001) : palette < 2 ? from(10, 12) : from(10, 100);
    }

    private int grains() {
        return rarely() ? from(-1, 2) : below(heavy) == 0 ? from(99990, 100001) : palette == 3 ? from(1, 100) : from(1, 9000);
    }

    private int weight() {
        return rarely() ? from(98, 101) : rarely() ? from(4990, 5002) : palette < 2 ? from(100, 300) : from(100, 2000);
    }

    private int held(int what) {
        return model.answer("count", new int[] {what});
    }

    private int one(int what) {
        int held = held(what);
        return rarely() || held == 0 ? from(-1, held) : below(held);
    }

    private void step() {
        int kind = below(100);
        if (kind < 4) ask("vat", anyDye(), litres());
        else if (kind < 10) ask("weigh", one(0), grains());
        else if (kind < 11) ask("drain", one(0));
        else if (kind < 16) ask("lot", rarely() ? from(-1, 2) : below(2), weight());
        else if (kind < 28) ask("dip", one(1), one(0));
        else if (kind < 30) ask("rinse", one(1));
        else if (kind < 36) hangSome();
        else if (kind < 38) ask("take", one(1));
        else if (kind < 43) orderSome();
        else if (kind < 49) sellSome();
        else if (kind < 52) setSome();
        else if (kind < 55) ask("undo");
        else if (kind < 57) writeSome();
        else if (kind < 61) planSome();
        else if (kind < 63) ask("play");
        else if (kind < 66) ask("fault", from(-1, 3));
        else lookAround();
    }

    private void hangSome() {
        int lot = one(1);
        int cloth = model.answer("lotOf", new int[] {lot, 0});
        ask("hang", lot, below(8) == 0 ? from(-1, 2) : Math.max(cloth, 0));
    }

    private int nearShade(int lot, int dye) {
        int shade = Math.max(0, model.answer("shade", new int[] {lot, dye}));
        return rarely() ? from(19990, 20002) : rarely() ? from(-2, 1) : Math.max(0, shade + from(-160, 160));
    }

    private void orderSome() {
        int lot = one(1);
        int also = below(3);
        int[] shades = new int[4];
        for (int dye = 0; dye < 4; dye++) {
            shades[dye] = nearShade(lot, dye);
            if (also == 0 && below(2) == 0) {
                shades[dye] += from(0, 3000);
            }
        }
        ask("order", shades);
        if (also == 2) {
            int cloth = model.answer("lotOf", new int[] {lot, 0});
            ask("hang", lot, Math.max(cloth, 0));
            ask("sell", lot, held(7) - 1);
        }
    }

    private void sellSome() {
        int lot = one(1);
        for (int order = 0; order < held(7) && below(4) != 0; order++) {
            if (model.answer("orderOf", new int[] {order, 4}) == 0) {
                ask("sell", lot, order);
            }
        }
        ask("sell", lot, one(7));
    }

    private void setSome() {
        int[][] ends = {{1, 100}, {0, 50}, {10, 1000}, {100, 20000}, {0, 2000}, {0, 50}, {0, 20000}};
        int what = rarely() ? from(-1, 7) : below(7);
        if (what < 0 || what > 6) {
            ask("set", what, from(0, 100));
            return;
        }
        int[] end = ends[what];
        int near = Math.min(end[1], end[0] + 30);
        int kind = below(6);
        ask("set", what, kind == 0 ? end[0] - 1 + below(2) : kind == 1 ? end[1] + below(2)
            : kind < 4 ? from(end[0], near) : from(end[0], end[1]));
    }

    private String number(int what) {
        int number = Math.max(0, one(what));
        return number < 10 && below(5) == 0 ? "0" + number : "" + number;
    }

    private void writeSome() {
        if (below(3) > 0) ask("clearText");
        int works = from(1, 8);
        for (int i = 0; i < works; i++) {
            String work;
            int lot = Math.max(0, one(1));
            int cloth = Math.max(0, model.answer("lotOf", new int[] {lot, 0}));
            switch (below(7)) {
                case 0: work = "d" + lot + "," + number(0) + ";"; break;
                case 1: work = "r" + number(1) + ";"; break;
                case 2: work = "h" + lot + "," + (rarely() ? from(0, 2) : cloth) + ";"; break;
                case 3: work = "h" + lot + "," + cloth + ";t" + lot + ";"; break;
                case 4: work = "e" + number(0) + ";"; break;
                case 5: work = "h" + lot + "," + cloth + ";s" + lot + "," + number(7) + ";"; break;
                default: work = below(3) > 0 ? "d" + number(1) + "," + number(0) + ";d" + lot + "," + number(0) + ";" : "t" + lot + ";"; break;
            }
            if (below(30) == 0) work = work.substring(0, below(work.length() + 1)) + (char) from(31, 127);
            for (int k = 0; k < work.length(); k++) {
                ask("type", work.charAt(k));
            }
        }
        ask("fault", 0);
        ask("fault", 1);
        ask("fault", 2);
        if (below(2) == 0) ask("play");
    }

    private void lookAround() {
        switch (below(13)) {
            case 0: ask("vatOf", one(0), from(-1, 5)); break;
            case 1: ask("vatAt", from(-1, 6)); break;
            case 2: ask("lotOf", one(1), from(-1, 10)); break;
            case 3: ask("shade", one(1), from(-1, 4)); break;
            case 4: ask("shadeBits", one(1), from(-1, 4)); break;
            case 5: ask("meanBits", from(-1, 4)); break;
            case 6: ask("orderOf", one(7), from(-1, 7)); break;
            case 7: ask("match", one(1), one(1)); break;
            case 8: ask("alike", from(-1, 4)); break;
            case 9: ask("plan", one(1), one(7), from(-2, 4)); break;
            case 10: ask("takes", one(1), one(0), from(0, 31)); break;
            case 11: ask("account", from(-1, 4), from(-1, 6)); break;
            default: ask("count", from(-1, 27)); break;
        }
    }

    /** Dips a lot some times, takes it back, and asks for the plan of an order of what it became. */
    private void planSome() {
        if (held(0) > 4 && below(6) > 0) {
            return; // Plans among many vats take the model long.
        }
        int lot = one(1);
        int dips = from(0, 4);
        int done = 0;
        for (int i = 0; i < dips; i++) {
            int held = held(9);
            ask("dip", lot, one(0));
            done += held(9) - held;
        }
        int[] shades = new int[4];
        for (int dye = 0; dye < 4; dye++) {
            shades[dye] = nearShade(lot, dye);
        }
        for (int i = 0; i < done; i++) {
            ask("undo");
        }
        ask("order", shades);
        int order = held(7) - 1;
        for (int index = -1; index < 5; index++) {
            ask("plan", lot, order, index);
        }
    }

    private void ask(String name, int... arguments) {
        if (call >= CALLS) {
            return;
        }
        call++;
        Object[] boxed = Arrays.stream(arguments).boxed().toArray();
        int due = model.answer(name, arguments);
        int got;
        try {
            got = (Integer) METHODS.get(name).invoke(object, boxed);
        } catch (ReflectiveOperationException e) {
            throw new IllegalStateException("run " + run + ", call " + call + ": " + name, e);
        }
        SEEN.merge(name + (due < 0 ? " " + due : " ok"), 1, Integer::sum);
        if (name.equals("plan") && arguments[2] == -1 && due >= 0) {
            SEEN.merge("plan of dips: " + due, 1, Integer::sum);
        }
        Calls.check("run " + run + ", call " + call + ": " + name + Arrays.toString(arguments), got, due);
    }
}
