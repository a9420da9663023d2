import java.math.BigInteger;
import java.util.ArrayDeque;
import java.util.ArrayList;
import java.util.Arrays;
import java.util.Deque;
import java.util.HashMap;
import java.util.List;
import java.util.Map;
import java.util.TreeMap;
import java.util.TreeSet;
import java.util.regex.Matcher;
import java.util.regex.Pattern;

/** The document once more, written with other means than the program: states that are copied whole. */
final class Model {
    private static final int BAD = -1;
    private static final int NOT = -2;
    private static final int FULL = -3;
    private static final int NONE = -4;
    private static final int[][] RANGES = {{1, 100}, {0, 50}, {10, 1000}, {100, 20000}, {0, 2000}, {0, 50}, {0, 20000}};
    private static final Pattern WORK = Pattern.compile(
        "\\G(?:([dhs])([0-9]{1,2}),([0-9]{1,2});|([rte])([0-9]{1,2});)");

    private static final class Piece {
        String kind;
        final Map<String, Integer> of = new TreeMap<>();

        Piece(String kind) {
            this.kind = kind;
        }

        Piece copy() {
            Piece piece = new Piece(kind);
            piece.of.putAll(of);
            return piece;
        }

        int get(String name) {
            return of.getOrDefault(name, 0);
        }

        void put(String name, int value) {
            of.put(name, value);
        }

        void more(String name, int value) {
            of.merge(name, value, Integer::sum);
        }

        boolean is(String name) {
            return get(name) == 1;
        }
    }

    private static final class State {
        List<Piece> vats = new ArrayList<>();
        List<Piece> lots = new ArrayList<>();
        List<Piece> orders = new ArrayList<>();
        Piece sums = new Piece("sums");
        int[] settings = {20, 5, 200, 8000, 150, 10, 2000};

        State copy() {
            State state = new State();
            vats.forEach(piece -> state.vats.add(piece.copy()));
            lots.forEach(piece -> state.lots.add(piece.copy()));
            orders.forEach(piece -> state.orders.add(piece.copy()));
            state.sums = sums.copy();
            state.settings = settings.clone();
            return state;
        }
    }

    private State now = new State();
    private final Deque<State> before = new ArrayDeque<>();
    private String text = "";

    int answer(String name, int[] a) {
        switch (name) {
            case "vatOf": return vatOf(a[0], a[1]);
            case "vatAt": return vatAt(a[0]);
            case "lotOf": return lotOf(a[0], a[1]);
            case "shade": return has(now.lots, a[0]) && dye(a[1]) ? shade(now.lots.get(a[0]), a[1]) : BAD;
            case "shadeBits":
                return has(now.lots, a[0]) && dye(a[1]) ? Float.floatToIntBits(real(now.lots.get(a[0]), a[1])) : BAD;
            case "meanBits": return meanBits(a[0]);
            case "orderOf": return orderOf(a[0], a[1]);
            case "match": return match(a[0], a[1]);
            case "alike": return alike(a[0]);
            case "plan": return plan(a[0], a[1], a[2]);
            case "takes": return takes(a[0], a[1], a[2]);
            case "account": return account(a[0], a[1]);
            case "count": return count(a[0]);
            case "undo": return undo();
            case "type": return type(a[0]);
            case "clearText": return clearText();
            case "fault": return fault(a[0]);
            default: return change(name, a);
        }
    }

    private int change(String name, int[] a) {
        State next = now.copy();
        int answer = name.equals("play") ? play(next) : act(next, name, a);
        if (answer >= 0) {
            before.addLast(now);
            now = next;
            if (before.size() == 5) {
                before.removeFirst();
            }
        }
        return answer;
    }

    private static boolean in(int value, int least, int most) {
        return least <= value && value <= most;
    }

    private static boolean dye(int dye) {
        return in(dye, 0, 3);
    }

    private static boolean has(List<Piece> pieces, int number) {
        return in(number, 0, pieces.size() - 1);
    }

    /** Does a change on a state that is thrown away where the answer is an error. */
    private static int act(State s, String name, int[] a) {
        switch (name) {
            case "vat": return vat(s, a[0], a[1]);
            case "weigh": return weigh(s, a[0], a[1]);
            case "drain": return drain(s, a[0]);
            case "lot": return lot(s, a[0], a[1]);
            case "dip": return dip(s, a[0], a[1], false);
            case "rinse": return rinse(s, a[0]);
            case "hang": return hang(s, a[0], a[1]);
            case "take": return take(s, a[0]);
            case "order": return order(s, a);
            case "sell": return sell(s, a[0], a[1]);
            case "set": return set(s, a[0], a[1]);
            default: throw new IllegalArgumentException(name);
        }
    }

    private static int vat(State s, int dye, int litres) {
        if (!dye(dye) || !in(litres, 10, 1000)) return BAD;
        if (s.vats.size() == 6) return FULL;
        Piece vat = new Piece("vat");
        vat.put("dye", dye);
        vat.put("litres", litres);
        s.vats.add(vat);
        return s.vats.size() - 1;
    }

    private static int weigh(State s, int number, int grains) {
        if (!has(s.vats, number) || !in(grains, 1, 100000)) return BAD;
        Piece vat = s.vats.get(number);
        s.sums.more("in" + vat.get("dye"), grains);
        if (s.sums.get("in" + vat.get("dye")) > 1000000) return FULL;
        vat.more("grains", grains);
        return vat.get("grains");
    }

    private static int drain(State s, int number) {
        if (!has(s.vats, number)) return BAD;
        Piece vat = s.vats.get(number);
        int grains = vat.get("grains");
        s.sums.more("waste" + vat.get("dye"), grains);
        vat.put("grains", 0);
        vat.put("dirt", 0);
        return grains;
    }

    private static int lot(State s, int cloth, int weight) {
        if (!in(cloth, 0, 1) || !in(weight, 100, 5000)) return BAD;
        if (s.lots.size() == 20) return FULL;
        Piece lot = new Piece("house");
        lot.put("cloth", cloth);
        lot.put("weight", weight);
        lot.put("order", -1);
        s.lots.add(lot);
        return s.lots.size() - 1;
    }

    private static boolean sold(Piece lot) {
        return lot.kind.equals("sold");
    }

    private static int drawn(Piece lot, Piece vat, int bath) {
        BigInteger pull = BigInteger.valueOf(lot.get("weight")).shiftLeft(lot.get("cloth"));
        BigInteger whole = pull.add(BigInteger.valueOf((long) bath * vat.get("litres")));
        return BigInteger.valueOf(vat.get("grains")).multiply(pull).divide(whole).intValueExact();
    }

    private static int all(Piece lot, String kind) {
        int sum = 0;
        for (int dye = 0; dye < 4; dye++) {
            sum += lot.get(kind + dye);
        }
        return sum;
    }

    private static int thousandfold(int grains, Piece lot) {
        return (int) Math.floorDiv(1000L * grains, (long) lot.get("weight"));
    }

    private static int shade(Piece lot, int dye) {
        return thousandfold(lot.get("fixed" + dye) + lot.get("loose" + dye), lot);
    }

    private static int depth(Piece lot) {
        return thousandfold(all(lot, "fixed") + all(lot, "loose"), lot);
    }

    private static float real(Piece lot, int dye) {
        return (float) (lot.get("fixed" + dye) + lot.get("loose" + dye)) / (float) lot.get("weight");
    }

    private static int dip(State s, int lotNumber, int vatNumber, boolean thought) {
        if (!has(s.lots, lotNumber) || !has(s.vats, vatNumber)) return BAD;
        Piece lot = s.lots.get(lotNumber);
        Piece vat = s.vats.get(vatNumber);
        if (sold(lot) || lot.is("hangs") && !thought || vat.get("grains") == 0) return NOT;
        int taken = drawn(lot, vat, s.settings[0]);
        int loose = taken * s.settings[5] / 100;
        boolean spoils = vat.get("dirt") > s.settings[2];
        lot.more("loose" + vat.get("dye"), loose);
        lot.more("fixed" + vat.get("dye"), taken - loose);
        vat.more("grains", -taken);
        int dirt = lot.get("weight") * s.settings[1];
        vat.more("dirt", dirt / 1000 + (dirt % 1000 == 0 ? 0 : 1));
        spoils = spoils || depth(lot) > s.settings[3];
        boolean spoiled = !lot.is("dark") && (lot.is("spoiled") || spoils);
        boolean saved = spoiled && vat.get("dye") == 3 && shade(lot, 3) >= s.settings[6];
        lot.put("spoiled", spoiled && !saved ? 1 : 0);
        lot.put("dark", lot.is("dark") || saved ? 1 : 0);
        lot.more("dips", 1);
        s.sums.more("dips", 1);
        return taken;
    }

    private static int rinse(State s, int number) {
        if (!has(s.lots, number)) return BAD;
        Piece lot = s.lots.get(number);
        if (sold(lot) || lot.is("hangs")) return NOT;
        int rinsed = all(lot, "loose");
        for (int dye = 0; dye < 4; dye++) {
            s.sums.more("waste" + dye, lot.get("loose" + dye));
            lot.of.remove("loose" + dye);
        }
        return rinsed;
    }

    private static int onRack(State s, int rack) {
        return (int) s.lots.stream().filter(lot -> lot.is("hangs") && lot.get("cloth") == rack).count();
    }

    private static int hang(State s, int number, int rack) {
        if (!has(s.lots, number) || !in(rack, 0, 1)) return BAD;
        Piece lot = s.lots.get(number);
        if (sold(lot) || lot.is("hangs") || lot.get("cloth") != rack) return NOT;
        if (onRack(s, rack) == 4) return FULL;
        lot.put("hangs", 1);
        return onRack(s, rack);
    }

    private static int take(State s, int number) {
        if (!has(s.lots, number)) return BAD;
        Piece lot = s.lots.get(number);
        if (!lot.is("hangs")) return NOT;
        lot.put("hangs", 0);
        return onRack(s, lot.get("cloth"));
    }

    private static int order(State s, int[] shades) {
        for (int shade : shades) {
            if (!in(shade, 0, 20000)) return BAD;
        }
        long open = s.orders.stream().filter(order -> !order.is("served")).count();
        if (open == 8 || s.orders.size() == 60) return FULL;
        Piece order = new Piece("order");
        for (int dye = 0; dye < 4; dye++) {
            order.put("shade" + dye, shades[dye]);
        }
        s.orders.add(order);
        return s.orders.size() - 1;
    }

    private static boolean fits(State s, Piece lot, Piece order) {
        boolean fits = !lot.is("spoiled");
        for (int dye = 0; dye < 4; dye++) {
            fits &= Math.abs(shade(lot, dye) - order.get("shade" + dye)) <= s.settings[4];
        }
        return fits;
    }

    private static int sell(State s, int lotNumber, int orderNumber) {
        if (!has(s.lots, lotNumber) || !has(s.orders, orderNumber)) return BAD;
        Piece lot = s.lots.get(lotNumber);
        Piece order = s.orders.get(orderNumber);
        if (sold(lot) || !lot.is("hangs") || order.is("served") || !fits(s, lot, order)) return NOT;
        lot.kind = "sold";
        lot.put("order", orderNumber);
        lot.put("hangs", 0);
        order.put("served", 1);
        return lot.get("weight");
    }

    private static int set(State s, int what, int value) {
        if (!in(what, 0, 6) || !in(value, RANGES[what][0], RANGES[what][1])) return BAD;
        int was = s.settings[what];
        s.settings[what] = value;
        return was;
    }

    private int vatOf(int number, int what) {
        if (!has(now.vats, number) || !in(what, 0, 4)) return BAD;
        Piece vat = now.vats.get(number);
        String[] names = {"dye", "litres", "grains", "dirt"};
        return what == 4 ? (vat.get("dirt") > now.settings[2] ? 1 : 0) : vat.get(names[what]);
    }

    private int vatAt(int index) {
        if (index < 0) return BAD;
        List<Integer> numbers = new ArrayList<>();
        for (int i = 0; i < now.vats.size(); i++) {
            numbers.add(i);
        }
        numbers.sort((one, other) -> {
            Piece a = now.vats.get(one);
            Piece b = now.vats.get(other);
            int byGrains = b.get("grains") / b.get("litres") - a.get("grains") / a.get("litres");
            int byDirt = a.get("dirt") - b.get("dirt");
            return byGrains != 0 ? byGrains : byDirt != 0 ? byDirt : one - other;
        });
        return index < numbers.size() ? numbers.get(index) : NONE;
    }

    private int lotOf(int number, int what) {
        if (!has(now.lots, number) || !in(what, 0, 9)) return BAD;
        Piece lot = now.lots.get(number);
        int[] values = {lot.get("cloth"), lot.get("weight"), depth(lot), all(lot, "fixed"), all(lot, "loose"),
            lot.get("hangs"), lot.get("spoiled"), lot.get("dark"), sold(lot) ? lot.get("order") : NONE,
            lot.get("dips")};
        return values[what];
    }

    private List<Piece> inHouse() {
        List<Piece> lots = new ArrayList<>(now.lots);
        lots.removeIf(Model::sold);
        return lots;
    }

    private int meanBits(int dye) {
        if (!dye(dye)) return BAD;
        double sum = 0;
        for (Piece lot : inHouse()) {
            sum += real(lot, dye);
        }
        int lots = inHouse().size();
        return lots == 0 ? NONE : Float.floatToIntBits((float) (sum / lots));
    }

    private int orderOf(int number, int what) {
        if (!has(now.orders, number) || !in(what, 0, 6)) return BAD;
        Piece order = now.orders.get(number);
        if (what < 4) return order.get("shade" + what);
        if (what == 4) return order.get("served");
        if (what == 5) return (int) inHouse().stream().filter(lot -> fits(now, lot, order)).count();
        TreeMap<Integer, TreeSet<Integer>> byDistance = new TreeMap<>();
        for (int i = 0; i < now.lots.size(); i++) {
            Piece lot = now.lots.get(i);
            if (!sold(lot)) {
                int sum = 0;
                for (int dye = 0; dye < 4; dye++) {
                    sum += Math.abs(shade(lot, dye) - order.get("shade" + dye));
                }
                byDistance.computeIfAbsent(sum, key -> new TreeSet<>()).add(i);
            }
        }
        return byDistance.isEmpty() ? NONE : byDistance.firstEntry().getValue().first();
    }

    private int match(int one, int other) {
        if (!has(now.lots, one) || !has(now.lots, other)) return BAD;
        for (int dye = 0; dye < 4; dye++) {
            if (Math.abs(shade(now.lots.get(one), dye) - shade(now.lots.get(other), dye)) > now.settings[4]) return 0;
        }
        return 1;
    }

    private int alike(int dye) {
        if (!dye(dye)) return BAD;
        int[] shades = inHouse().stream().mapToInt(lot -> shade(lot, dye)).sorted().toArray();
        int most = 0;
        for (int from = 0; from < shades.length; from++) {
            for (int to = from; to < shades.length; to++) {
                if (shades[to] - shades[from] <= now.settings[4]) most = Math.max(most, to - from + 1);
            }
        }
        return most;
    }

    private int plan(int lot, int order, int index) {
        if (!has(now.lots, lot) || !has(now.orders, order) || index < -1) return BAD;
        if (sold(now.lots.get(lot))) return NOT;
        Map<List<Integer>, State> layer = new HashMap<>();
        List<List<Integer>> rows = new ArrayList<>();
        rows.add(List.of());
        layer.put(List.of(), now);
        for (int dips = 0; dips <= 4; dips++) {
            for (List<Integer> row : rows) {
                State state = layer.get(row);
                if (fits(state, state.lots.get(lot), state.orders.get(order))) {
                    return index == -1 ? dips : index < dips ? row.get(index) : NONE;
                }
            }
            if (dips == 4) break;
            List<List<Integer>> longer = new ArrayList<>();
            Map<List<Integer>, State> next = new HashMap<>();
            for (List<Integer> row : rows) {
                for (int vat = 0; vat < now.vats.size(); vat++) {
                    State state = slice(layer.get(row), lot, order);
                    if (dip(state, lot, vat, true) >= 0) {
                        List<Integer> more = new ArrayList<>(row);
                        more.add(vat);
                        longer.add(more);
                        next.put(more, state);
                    }
                }
            }
            rows = longer;
            layer = next;
        }
        return NONE;
    }

    /** A copy in which only what a dip of this lot touches is new. */
    private static State slice(State from, int lot, int order) {
        State state = new State();
        from.vats.forEach(piece -> state.vats.add(piece.copy()));
        state.lots = new ArrayList<>(from.lots);
        state.lots.set(lot, from.lots.get(lot).copy());
        state.orders = from.orders;
        state.sums = from.sums.copy();
        state.settings = from.settings;
        return state;
    }

    private int takes(int lotNumber, int vatNumber, int times) {
        if (!has(now.lots, lotNumber) || !has(now.vats, vatNumber) || !in(times, 1, 30)) return BAD;
        Piece lot = now.lots.get(lotNumber);
        if (sold(lot)) return NOT;
        Piece vat = now.vats.get(vatNumber).copy();
        int sum = 0;
        while (times-- > 0) {
            int taken = drawn(lot, vat, now.settings[0]);
            vat.more("grains", -taken);
            sum += taken;
        }
        return sum;
    }

    private int account(int dye, int what) {
        if (!dye(dye) || !in(what, 0, 5)) return BAD;
        int[] sums = new int[6];
        sums[0] = now.sums.get("in" + dye);
        for (Piece vat : now.vats) {
            sums[1] += vat.get("dye") == dye ? vat.get("grains") : 0;
        }
        for (Piece lot : now.lots) {
            sums[sold(lot) ? 4 : 2] += lot.get("fixed" + dye);
            sums[sold(lot) ? 4 : 3] += lot.get("loose" + dye);
        }
        sums[5] = sums[0] - sums[1] - sums[2] - sums[3] - sums[4];
        if (sums[5] != now.sums.get("waste" + dye)) throw new IllegalStateException("dye was lost");
        return sums[what];
    }

    private int count(int what) {
        List<Piece> house = inHouse();
        switch (what) {
            case 0: return now.vats.size();
            case 1: return now.lots.size();
            case 2: return house.size();
            case 3: return onRack(now, 0) + onRack(now, 1);
            case 4: return (int) house.stream().filter(lot -> lot.is("spoiled")).count();
            case 5: return (int) now.lots.stream().filter(lot -> lot.is("dark")).count();
            case 6: return now.lots.size() - house.size();
            case 7: return now.orders.size();
            case 8: return (int) now.orders.stream().filter(order -> !order.is("served")).count();
            case 9: return now.sums.get("dips");
            case 10: return before.size();
            case 11: return text.length();
            default: return in(what, 20, 26) ? now.settings[what - 20] : BAD;
        }
    }

    private int undo() {
        if (before.isEmpty()) return NOT;
        now = before.removeLast();
        return before.size();
    }

    private int type(int character) {
        if (!in(character, 32, 126)) return BAD;
        if (text.length() == 60) return FULL;
        text += (char) character;
        return text.length();
    }

    private int clearText() {
        int length = text.length();
        text = "";
        return length;
    }

    /** Does the text on a state: {works, place, reason, cause}, the place -1 if there is no fault. */
    private int[] run(State state) {
        Map<String, String> names = Map.of("d", "dip", "r", "rinse", "h", "hang", "t", "take", "e", "drain", "s", "sell");
        Matcher matcher = WORK.matcher(text);
        int place = 0;
        int works = 0;
        while (place < text.length()) {
            if (!matcher.find(place)) return new int[] {works, place, 1, NONE};
            String[] parts = text.substring(place + 1, matcher.end() - 1).split(",");
            int[] arguments = Arrays.stream(parts).mapToInt(Integer::parseInt).toArray();
            int answer = act(state, names.get(text.substring(place, place + 1)), arguments);
            if (answer < 0) return new int[] {works, place, 2, answer};
            works++;
            place = matcher.end();
        }
        return new int[] {works, -1, 0, 0};
    }

    private int fault(int what) {
        if (!in(what, 0, 2)) return BAD;
        int[] ran = run(now.copy());
        return ran[1] < 0 ? NONE : ran[what + 1];
    }

    private int play(State next) {
        int[] ran = run(next);
        return ran[1] < 0 ? ran[0] : NOT;
    }
}
