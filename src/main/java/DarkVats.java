/** A dye house: vats, lots of cloth, orders, accounts of all dye, and orders of work as texts. */
public final class DarkVats {
    public static final int INVALID_ARGUMENT = -1;
    public static final int NOT_POSSIBLE = -2;
    public static final int LIMIT_REACHED = -3;
    public static final int NOT_FOUND = -4;

    private static final int DYES = 4;
    private static final int BLACK_DYE = 3;
    private static final int LINEN = 0;
    private static final int WOOL = 1;

    private final House house = new House();
    // What would be: plans and texts are tried here, so that the house itself stays as it is.
    private final House trial = new House();
    private final History history = new History();
    private final Text text = new Text();
    private final Script script = new Script();
    private final Planner planner = new Planner();

    public DarkVats() {
    }

    // ---- vats

    public int vat(int dye, int litres) {
        history.noteState(house);
        return history.keepNoted(house.addVat(dye, litres));
    }

    public int weigh(int vat, int grains) {
        history.noteState(house);
        return history.keepNoted(house.weighInto(vat, grains));
    }

    public int drain(int vat) {
        history.noteState(house);
        return history.keepNoted(house.drainVat(vat));
    }

    public int vatOf(int vat, int what) {
        Vat found = house.findVat(vat);
        if (found == null) {
            return INVALID_ARGUMENT;
        }
        switch (what) {
            case 0:
                return found.dye;
            case 1:
                return found.litres;
            case 2:
                return found.grains;
            case 3:
                return found.dirt;
            case 4:
                return oneIf(found.spoils(house.settings));
            default:
                return INVALID_ARGUMENT;
        }
    }

    public int vatAt(int index) {
        if (index < 0) {
            return INVALID_ARGUMENT;
        }
        for (int i = 0; i < house.vatCount; i++) {
            if (house.vatsAheadOf(i) == index) {
                return i;
            }
        }
        return NOT_FOUND;
    }

    // ---- lots

    public int lot(int cloth, int weight) {
        history.noteState(house);
        return history.keepNoted(house.addLot(cloth, weight));
    }

    public int dip(int lot, int vat) {
        history.noteState(house);
        return history.keepNoted(house.dipLot(lot, vat));
    }

    public int rinse(int lot) {
        history.noteState(house);
        return history.keepNoted(house.rinseLot(lot));
    }

    public int hang(int lot, int rack) {
        history.noteState(house);
        return history.keepNoted(house.hangLot(lot, rack));
    }

    public int take(int lot) {
        history.noteState(house);
        return history.keepNoted(house.takeDown(lot));
    }

    public int lotOf(int lot, int what) {
        Lot found = house.findLot(lot);
        if (found == null) {
            return INVALID_ARGUMENT;
        }
        switch (what) {
            case 0:
                return found.cloth;
            case 1:
                return found.weight;
            case 2:
                return found.depth();
            case 3:
                return sumOf(found.fixed);
            case 4:
                return sumOf(found.loose);
            case 5:
                return oneIf(found.hangs);
            case 6:
                return oneIf(found.spoiled);
            case 7:
                return oneIf(found.dark);
            case 8:
                return found.isSold() ? found.soldFor : NOT_FOUND;
            case 9:
                return found.dips;
            default:
                return INVALID_ARGUMENT;
        }
    }

    public int shade(int lot, int dye) {
        Lot found = house.findLot(lot);
        if (found == null || !isDye(dye)) {
            return INVALID_ARGUMENT;
        }
        return found.shadeOf(dye);
    }

    public int shadeBits(int lot, int dye) {
        Lot found = house.findLot(lot);
        if (found == null || !isDye(dye)) {
            return INVALID_ARGUMENT;
        }
        return bitsOf(found.floatShade(dye));
    }

    public int meanBits(int dye) {
        if (!isDye(dye)) {
            return INVALID_ARGUMENT;
        }
        double sum = 0.0;
        int lots = 0;
        for (int i = 0; i < house.lotCount; i++) {
            Lot lot = house.findLot(i);
            if (lot != null && !lot.isSold()) {
                sum = sum + (double) lot.floatShade(dye);
                lots++;
            }
        }
        if (lots <= 0) {
            return NOT_FOUND;
        }
        return bitsOf((float) (sum / (double) lots));
    }

    // ---- orders, matching

    public int order(int blue, int red, int yellow, int black) {
        history.noteState(house);
        return history.keepNoted(house.addOrder(blue, red, yellow, black));
    }

    public int sell(int lot, int order) {
        history.noteState(house);
        return history.keepNoted(house.sellLot(lot, order));
    }

    public int orderOf(int order, int what) {
        Order found = house.findOrder(order);
        if (found == null) {
            return INVALID_ARGUMENT;
        }
        if (isDye(what)) {
            return found.shadeFor(what);
        }
        switch (what) {
            case 4:
                return oneIf(found.served);
            case 5:
                return house.lotsThatFit(found);
            case 6:
                return house.nearestLot(found);
            default:
                return INVALID_ARGUMENT;
        }
    }

    public int match(int one, int other) {
        Lot first = house.findLot(one);
        Lot second = house.findLot(other);
        if (first == null || second == null) {
            return INVALID_ARGUMENT;
        }
        int bound = house.settings.valueOf(Settings.BOUND);
        for (int dye = 0; dye < DYES; dye++) {
            if (distance(first.shadeOf(dye), second.shadeOf(dye)) > bound) {
                return 0;
            }
        }
        return 1;
    }

    public int alike(int dye) {
        if (!isDye(dye)) {
            return INVALID_ARGUMENT;
        }
        int most = 0;
        for (int i = 0; i < house.lotCount; i++) {
            Lot palest = house.findLot(i);
            if (palest != null && !palest.isSold()) {
                int near = house.lotsNotFarAbove(palest.shadeOf(dye), dye);
                most = near > most ? near : most;
            }
        }
        return most;
    }

    public int plan(int lot, int order, int index) {
        Lot found = house.findLot(lot);
        Order wanted = house.findOrder(order);
        if (found == null || wanted == null || index < -1) {
            return INVALID_ARGUMENT;
        }
        if (found.isSold()) {
            return NOT_POSSIBLE;
        }
        trial.copyFrom(house);
        int dips = planner.findPlan(trial, found, wanted);
        if (dips < 0 || index >= dips) {
            return NOT_FOUND;
        }
        return index < 0 ? dips : planner.vatOfDip(index);
    }

    public int takes(int lot, int vat, int times) {
        Lot dipped = house.findLot(lot);
        Vat used = house.findVat(vat);
        if (dipped == null || used == null || times < 1 || times > 30) {
            return INVALID_ARGUMENT;
        }
        if (dipped.isSold()) {
            return NOT_POSSIBLE;
        }
        int left = used.grains;
        for (int i = 0; i < times; i++) {
            left -= dipped.grainsTaken(left, used.litres, house.settings);
        }
        return used.grains - left;
    }

    // ---- accounts

    public int account(int dye, int what) {
        if (!isDye(dye)) {
            return INVALID_ARGUMENT;
        }
        switch (what) {
            case 0:
                return cellAt(house.weighed, dye);
            case 1:
                return house.grainsInVats(dye);
            case 2:
                return house.fixedInHouse(dye);
            case 3:
                return house.looseInHouse(dye);
            case 4:
                return house.grainsSold(dye);
            case 5:
                return cellAt(house.waste, dye);
            default:
                return INVALID_ARGUMENT;
        }
    }

    public int count(int what) {
        if (what >= 20 && Settings.exists(what - 20)) {
            return house.settings.valueOf(what - 20);
        }
        switch (what) {
            case 0:
                return house.vatCount;
            case 1:
                return house.lotCount;
            case 2:
            case 3:
            case 4:
            case 5:
            case 6:
                return house.lotsCounted(what);
            case 7:
                return house.orderCount;
            case 8:
                return house.openOrders();
            case 9:
                return house.dips;
            case 10:
                return history.size;
            case 11:
                return text.length;
            default:
                return INVALID_ARGUMENT;
        }
    }

    public int set(int what, int value) {
        history.noteState(house);
        return history.keepNoted(house.settings.change(what, value));
    }

    public int undo() {
        return history.stepBack(house);
    }

    // ---- texts

    public int type(int character) {
        return text.append(character);
    }

    public int clearText() {
        return text.makeEmpty();
    }

    public int fault(int what) {
        if (what < 0 || what > 2) {
            return INVALID_ARGUMENT;
        }
        trial.copyFrom(house);
        script.doAll(text, trial);
        if (!script.hasFault()) {
            return NOT_FOUND;
        }
        switch (what) {
            case 0:
                return script.faultPlace;
            case 1:
                return script.faultReason;
            default:
                return script.faultReason == Script.WRONG_FORM ? NOT_FOUND : script.faultCause;
        }
    }

    public int play() {
        trial.copyFrom(house);
        script.doAll(text, trial);
        if (script.hasFault()) {
            return NOT_POSSIBLE;
        }
        history.noteState(house);
        house.copyFrom(trial);
        return history.keepNoted(script.worksDone);
    }

    // ---- what all parts use

    private static boolean isDye(int dye) {
        return dye >= 0 && dye < DYES;
    }

    private static int oneIf(boolean condition) {
        return condition ? 1 : 0;
    }

    private static int distance(int one, int other) {
        return one >= other ? one - other : other - one;
    }

    private static int cellAt(int[] row, int index) {
        return index >= 0 && index < row.length ? row[index] : 0;
    }

    private static void putAt(int[] row, int index, int value) {
        if (index >= 0 && index < row.length) {
            row[index] = value;
        }
    }

    private static void addTo(int[] row, int index, int amount) {
        if (index >= 0 && index < row.length) {
            row[index] += amount;
        }
    }

    private static int sumOf(int[] row) {
        int sum = 0;
        for (int i = 0; i < row.length; i++) {
            sum += row[i];
        }
        return sum;
    }

    private static void copyRow(int[] from, int[] to) {
        for (int i = 0; i < from.length && i < to.length; i++) {
            to[i] = from[i];
        }
    }

    /**
     * The bits of a float that is not negative. The part of Java that the program keeps to has no
     * call for them; halving and doubling are exact for the shades, which are normal floats or 0.
     */
    private static int bitsOf(float value) {
        if (!(value > 0f)) {
            return 0;
        }
        float part = value;
        int exponent = 127;
        for (int i = 0; i < 128 && part >= 2f; i++) {
            part = part / 2f;
            exponent++;
        }
        for (int i = 0; i < 128 && part < 1f; i++) {
            part = part * 2f;
            exponent--;
        }
        int fraction = (int) ((part - 1f) * 8388608f);
        return (exponent << 23) | fraction;
    }

    /** The settings by their numbers. */
    private static final class Settings {
        static final int BATH = 0;
        static final int DIRT_OF_KILOGRAM = 1;
        static final int DIRT_THAT_SPOILS = 2;
        static final int GREATEST_DEPTH = 3;
        static final int BOUND = 4;
        static final int LOOSE_OF_HUNDRED = 5;
        static final int BLACK_THAT_SAVES = 6;

        private static final int[] LEAST = {1, 0, 10, 100, 0, 0, 0};
        private static final int[] MOST = {100, 50, 1000, 20000, 2000, 50, 20000};
        private static final int[] FIRST = {20, 5, 200, 8000, 150, 10, 2000};

        private final int[] values = new int[7];

        Settings() {
            for (int i = 0; i < values.length && i < FIRST.length; i++) {
                values[i] = FIRST[i];
            }
        }

        static boolean exists(int what) {
            return what >= 0 && what < FIRST.length;
        }

        int valueOf(int what) {
            return what >= 0 && what < values.length ? values[what] : 0;
        }

        void copyFrom(Settings other) {
            copyRow(other.values, values);
        }

        int change(int what, int value) {
            if (what < 0 || what >= values.length) {
                return INVALID_ARGUMENT;
            }
            if (value < cellAt(LEAST, what) || value > cellAt(MOST, what)) {
                return INVALID_ARGUMENT;
            }
            int before = values[what];
            values[what] = value;
            return before;
        }
    }

    private static final class Vat {
        int dye;
        int litres;
        int grains;
        int dirt;

        void copyFrom(Vat other) {
            dye = other.dye;
            litres = other.litres;
            grains = other.grains;
            dirt = other.dirt;
        }

        int strength() {
            return litres > 0 ? grains / litres : 0;
        }

        boolean spoils(Settings settings) {
            return dirt > settings.valueOf(Settings.DIRT_THAT_SPOILS);
        }

        /** Whether it comes ahead of another one with a higher number. */
        boolean isAheadOfLater(Vat other) {
            if (strength() != other.strength()) {
                return strength() > other.strength();
            }
            return dirt <= other.dirt;
        }
    }

    private static final class Lot {
        private static final int UNSOLD = -1;

        int cloth;
        int weight;
        boolean hangs;
        boolean spoiled;
        boolean dark;
        int soldFor = UNSOLD;
        int dips;
        final int[] fixed = new int[DYES];
        final int[] loose = new int[DYES];

        void copyFrom(Lot other) {
            cloth = other.cloth;
            weight = other.weight;
            hangs = other.hangs;
            spoiled = other.spoiled;
            dark = other.dark;
            soldFor = other.soldFor;
            dips = other.dips;
            copyRow(other.fixed, fixed);
            copyRow(other.loose, loose);
        }

        boolean isSold() {
            return soldFor != UNSOLD;
        }

        int grainsOf(int dye) {
            return dye >= 0 && dye < fixed.length && dye < loose.length ? fixed[dye] + loose[dye] : 0;
        }

        int shadeOf(int dye) {
            return weight > 0 ? (int) (1000L * grainsOf(dye) / weight) : 0;
        }

        int depth() {
            return weight > 0 ? (int) (1000L * (sumOf(fixed) + sumOf(loose)) / weight) : 0;
        }

        float floatShade(int dye) {
            return weight > 0 ? (float) grainsOf(dye) / (float) weight : 0f;
        }

        /** What it takes out of so many grains in so many litres. */
        int grainsTaken(int grains, int litres, Settings settings) {
            long drawing = (cloth == WOOL ? 2L : 1L) * weight;
            long all = drawing + (long) settings.valueOf(Settings.BATH) * litres;
            return all > 0L ? (int) (grains * drawing / all) : 0;
        }

        /** Dips it, and returns the grains that it takes. */
        int soakIn(Vat vat, Settings settings) {
            int taken = grainsTaken(vat.grains, vat.litres, settings);
            int unfixed = taken * settings.valueOf(Settings.LOOSE_OF_HUNDRED) / 100;
            boolean dirty = vat.spoils(settings);
            addTo(loose, vat.dye, unfixed);
            addTo(fixed, vat.dye, taken - unfixed);
            dips++;
            vat.grains -= taken;
            vat.dirt += (weight * settings.valueOf(Settings.DIRT_OF_KILOGRAM) + 999) / 1000;
            if (!dark && (dirty || depth() > settings.valueOf(Settings.GREATEST_DEPTH))) {
                spoiled = true;
            }
            if (spoiled && vat.dye == BLACK_DYE
                    && shadeOf(BLACK_DYE) >= settings.valueOf(Settings.BLACK_THAT_SAVES)) {
                spoiled = false;
                dark = true;
            }
            return taken;
        }
    }

    private static final class Order {
        private final int[] shades = new int[DYES];
        boolean served;

        void copyFrom(Order other) {
            copyRow(other.shades, shades);
            served = other.served;
        }

        void ask(int blue, int red, int yellow, int black) {
            putAt(shades, 0, blue);
            putAt(shades, 1, red);
            putAt(shades, 2, yellow);
            putAt(shades, 3, black);
        }

        int shadeFor(int dye) {
            return cellAt(shades, dye);
        }

        boolean isFittedBy(Lot lot, Settings settings) {
            if (lot.spoiled) {
                return false;
            }
            int bound = settings.valueOf(Settings.BOUND);
            for (int dye = 0; dye < DYES; dye++) {
                if (distance(lot.shadeOf(dye), shadeFor(dye)) > bound) {
                    return false;
                }
            }
            return true;
        }

        int distanceTo(Lot lot) {
            int sum = 0;
            for (int dye = 0; dye < DYES; dye++) {
                sum += distance(lot.shadeOf(dye), shadeFor(dye));
            }
            return sum;
        }
    }

    /** All that a change may change: the whole state but the text and the history. */
    private static final class House {
        private static final int MOST_WEIGHED = 1000000;
        private static final int MOST_SHADE = 20000;
        private static final int PLACES_OF_RACK = 4;
        private static final int MOST_OPEN_ORDERS = 8;

        private final Vat[] vats = new Vat[6];
        private final Lot[] lots = new Lot[20];
        private final Order[] orders = new Order[60];
        int vatCount;
        int lotCount;
        int orderCount;
        int dips;
        final int[] weighed = new int[DYES];
        final int[] waste = new int[DYES];
        final Settings settings = new Settings();

        House() {
            for (int i = 0; i < vats.length; i++) {
                vats[i] = new Vat();
            }
            for (int i = 0; i < lots.length; i++) {
                lots[i] = new Lot();
            }
            for (int i = 0; i < orders.length; i++) {
                orders[i] = new Order();
            }
        }

        void copyFrom(House other) {
            vatCount = other.vatCount;
            lotCount = other.lotCount;
            orderCount = other.orderCount;
            dips = other.dips;
            copyRow(other.weighed, weighed);
            copyRow(other.waste, waste);
            settings.copyFrom(other.settings);
            copyVats(other.vats);
            copyLots(other.lots);
            copyOrders(other.orders);
        }

        private void copyVats(Vat[] others) {
            for (int i = 0; i < vats.length && i < others.length; i++) {
                Vat from = others[i];
                Vat to = vats[i];
                if (from != null && to != null) {
                    to.copyFrom(from);
                }
            }
        }

        private void copyLots(Lot[] others) {
            for (int i = 0; i < lots.length && i < others.length; i++) {
                Lot from = others[i];
                Lot to = lots[i];
                if (from != null && to != null) {
                    to.copyFrom(from);
                }
            }
        }

        private void copyOrders(Order[] others) {
            for (int i = 0; i < orders.length && i < others.length; i++) {
                Order from = others[i];
                Order to = orders[i];
                if (from != null && to != null) {
                    to.copyFrom(from);
                }
            }
        }

        /** The vat with this number, null if there is none; findLot and findOrder do alike. */
        Vat findVat(int number) {
            boolean exists = number >= 0 && number < vatCount && number < vats.length;
            return exists ? vats[number] : null;
        }

        Lot findLot(int number) {
            boolean exists = number >= 0 && number < lotCount && number < lots.length;
            return exists ? lots[number] : null;
        }

        Order findOrder(int number) {
            boolean exists = number >= 0 && number < orderCount && number < orders.length;
            return exists ? orders[number] : null;
        }

        int addVat(int dye, int litres) {
            if (!isDye(dye) || litres < 10 || litres > 1000) {
                return INVALID_ARGUMENT;
            }
            if (vatCount >= vats.length) {
                return LIMIT_REACHED;
            }
            vatCount++;
            Vat vat = findVat(vatCount - 1);
            if (vat != null) {
                vat.dye = dye;
                vat.litres = litres;
            }
            return vatCount - 1;
        }

        int weighInto(int number, int grains) {
            Vat vat = findVat(number);
            if (vat == null || grains < 1 || grains > 100000) {
                return INVALID_ARGUMENT;
            }
            if (cellAt(weighed, vat.dye) + grains > MOST_WEIGHED) {
                return LIMIT_REACHED;
            }
            addTo(weighed, vat.dye, grains);
            vat.grains += grains;
            return vat.grains;
        }

        int drainVat(int number) {
            Vat vat = findVat(number);
            if (vat == null) {
                return INVALID_ARGUMENT;
            }
            int drained = vat.grains;
            addTo(waste, vat.dye, drained);
            vat.grains = 0;
            vat.dirt = 0;
            return drained;
        }

        int addLot(int cloth, int weight) {
            if (cloth != LINEN && cloth != WOOL || weight < 100 || weight > 5000) {
                return INVALID_ARGUMENT;
            }
            if (lotCount >= lots.length) {
                return LIMIT_REACHED;
            }
            lotCount++;
            Lot lot = findLot(lotCount - 1);
            if (lot != null) {
                lot.cloth = cloth;
                lot.weight = weight;
            }
            return lotCount - 1;
        }

        int dipLot(int lotNumber, int vatNumber) {
            Lot lot = findLot(lotNumber);
            Vat vat = findVat(vatNumber);
            if (lot == null || vat == null) {
                return INVALID_ARGUMENT;
            }
            if (lot.isSold() || lot.hangs || vat.grains <= 0) {
                return NOT_POSSIBLE;
            }
            dips++;
            return lot.soakIn(vat, settings);
        }

        int rinseLot(int number) {
            Lot lot = findLot(number);
            if (lot == null) {
                return INVALID_ARGUMENT;
            }
            if (lot.isSold() || lot.hangs) {
                return NOT_POSSIBLE;
            }
            int rinsed = sumOf(lot.loose);
            for (int dye = 0; dye < DYES; dye++) {
                addTo(waste, dye, cellAt(lot.loose, dye));
                putAt(lot.loose, dye, 0);
            }
            return rinsed;
        }

        // Rack 0 takes linen (0) and rack 1 wool (1): a lot can hang on no rack but that of its cloth.
        int hangLot(int number, int rack) {
            Lot lot = findLot(number);
            if (lot == null || rack != LINEN && rack != WOOL) {
                return INVALID_ARGUMENT;
            }
            if (lot.isSold() || lot.hangs || lot.cloth != rack) {
                return NOT_POSSIBLE;
            }
            if (lotsOnRack(rack) >= PLACES_OF_RACK) {
                return LIMIT_REACHED;
            }
            lot.hangs = true;
            return lotsOnRack(rack);
        }

        int takeDown(int number) {
            Lot lot = findLot(number);
            if (lot == null) {
                return INVALID_ARGUMENT;
            }
            if (!lot.hangs) {
                return NOT_POSSIBLE;
            }
            lot.hangs = false;
            return lotsOnRack(lot.cloth);
        }

        int addOrder(int blue, int red, int yellow, int black) {
            if (!isAskable(blue) || !isAskable(red) || !isAskable(yellow) || !isAskable(black)) {
                return INVALID_ARGUMENT;
            }
            if (orderCount >= orders.length || openOrders() >= MOST_OPEN_ORDERS) {
                return LIMIT_REACHED;
            }
            orderCount++;
            Order order = findOrder(orderCount - 1);
            if (order != null) {
                order.ask(blue, red, yellow, black);
            }
            return orderCount - 1;
        }

        private static boolean isAskable(int shade) {
            return shade >= 0 && shade <= MOST_SHADE;
        }

        int sellLot(int lotNumber, int orderNumber) {
            Lot lot = findLot(lotNumber);
            Order order = findOrder(orderNumber);
            if (lot == null || order == null) {
                return INVALID_ARGUMENT;
            }
            if (lot.isSold() || !lot.hangs || order.served || !order.isFittedBy(lot, settings)) {
                return NOT_POSSIBLE;
            }
            lot.soldFor = orderNumber;
            lot.hangs = false;
            order.served = true;
            return lot.weight;
        }

        /** Does one order of work of a text. */
        int doWork(char kind, int first, int second) {
            switch (kind) {
                case 'd':
                    return dipLot(first, second);
                case 'r':
                    return rinseLot(first);
                case 'h':
                    return hangLot(first, second);
                case 't':
                    return takeDown(first);
                case 'e':
                    return drainVat(first);
                case 's':
                    return sellLot(first, second);
                default:
                    return INVALID_ARGUMENT;
            }
        }

        int vatsAheadOf(int number) {
            Vat vat = findVat(number);
            int ahead = 0;
            for (int i = 0; i < vatCount && vat != null; i++) {
                Vat other = findVat(i);
                if (other == null || i == number) {
                    continue;
                }
                if (i < number ? other.isAheadOfLater(vat) : !vat.isAheadOfLater(other)) {
                    ahead++;
                }
            }
            return ahead;
        }

        int lotsOnRack(int rack) {
            int hanging = 0;
            for (int i = 0; i < lotCount; i++) {
                Lot lot = findLot(i);
                if (lot != null && lot.hangs && lot.cloth == rack) {
                    hanging++;
                }
            }
            return hanging;
        }

        int openOrders() {
            int open = 0;
            for (int i = 0; i < orderCount; i++) {
                Order order = findOrder(i);
                if (order != null && !order.served) {
                    open++;
                }
            }
            return open;
        }

        int lotsThatFit(Order order) {
            int fitting = 0;
            for (int i = 0; i < lotCount; i++) {
                Lot lot = findLot(i);
                if (lot != null && !lot.isSold() && order.isFittedBy(lot, settings)) {
                    fitting++;
                }
            }
            return fitting;
        }

        int nearestLot(Order order) {
            int nearest = NOT_FOUND;
            int least = 0;
            for (int i = 0; i < lotCount; i++) {
                Lot lot = findLot(i);
                if (lot == null || lot.isSold()) {
                    continue;
                }
                int distance = order.distanceTo(lot);
                if (nearest < 0 || distance < least) {
                    nearest = i;
                    least = distance;
                }
            }
            return nearest;
        }

        /** How many lots in the house have this shade of a dye, or are darker by the bound at most. */
        int lotsNotFarAbove(int shade, int dye) {
            int bound = settings.valueOf(Settings.BOUND);
            int near = 0;
            for (int i = 0; i < lotCount; i++) {
                Lot lot = findLot(i);
                if (lot == null || lot.isSold()) {
                    continue;
                }
                int above = lot.shadeOf(dye) - shade;
                if (above >= 0 && above <= bound) {
                    near++;
                }
            }
            return near;
        }

        /** The numbers 2 to 6 of count(). */
        int lotsCounted(int what) {
            int counted = 0;
            for (int i = 0; i < lotCount; i++) {
                Lot lot = findLot(i);
                if (lot != null && isCounted(lot, what)) {
                    counted++;
                }
            }
            return counted;
        }

        private static boolean isCounted(Lot lot, int what) {
            switch (what) {
                case 2:
                    return !lot.isSold();
                case 3:
                    return lot.hangs;
                case 4:
                    return !lot.isSold() && lot.spoiled;
                case 5:
                    return lot.dark;
                case 6:
                    return lot.isSold();
                default:
                    return false;
            }
        }

        int grainsInVats(int dye) {
            int grains = 0;
            for (int i = 0; i < vatCount; i++) {
                Vat vat = findVat(i);
                if (vat != null && vat.dye == dye) {
                    grains += vat.grains;
                }
            }
            return grains;
        }

        int fixedInHouse(int dye) {
            int grains = 0;
            for (int i = 0; i < lotCount; i++) {
                Lot lot = findLot(i);
                if (lot != null && !lot.isSold()) {
                    grains += cellAt(lot.fixed, dye);
                }
            }
            return grains;
        }

        int looseInHouse(int dye) {
            int grains = 0;
            for (int i = 0; i < lotCount; i++) {
                Lot lot = findLot(i);
                if (lot != null && !lot.isSold()) {
                    grains += cellAt(lot.loose, dye);
                }
            }
            return grains;
        }

        int grainsSold(int dye) {
            int grains = 0;
            for (int i = 0; i < lotCount; i++) {
                Lot lot = findLot(i);
                if (lot != null && lot.isSold()) {
                    grains += lot.grainsOf(dye);
                }
            }
            return grains;
        }
    }

    /** The states before the latest changes, the oldest first. */
    private static final class History {
        private static final int MOST_STATES = 4;

        // One more than are kept: the state before a call is noted before the call may fail.
        private final House[] states = new House[MOST_STATES + 1];
        int size;

        History() {
            for (int i = 0; i < states.length; i++) {
                states[i] = new House();
            }
        }

        private House stateAt(int index) {
            return index >= 0 && index < states.length ? states[index] : null;
        }

        void noteState(House house) {
            House noted = stateAt(size);
            if (noted != null) {
                noted.copyFrom(house);
            }
        }

        /** Keeps the noted state unless this answer is an error, and returns the answer. */
        int keepNoted(int answer) {
            if (answer >= 0) {
                size++;
                if (size > MOST_STATES) {
                    dropOldest();
                }
            }
            return answer;
        }

        // The oldest state moves up to the end, where the next one is noted in its place.
        private void dropOldest() {
            for (int i = 1; i < states.length; i++) {
                House oldest = states[i - 1];
                states[i - 1] = states[i];
                states[i] = oldest;
            }
            size--;
        }

        int stepBack(House house) {
            House latest = stateAt(size - 1);
            if (latest == null) {
                return NOT_POSSIBLE;
            }
            house.copyFrom(latest);
            size--;
            return size;
        }
    }

    private static final class Text {
        static final int MOST_SIGNS = 60;

        private final char[] signs = new char[MOST_SIGNS];
        int length;

        int append(int character) {
            if (character < 32 || character > 126) {
                return INVALID_ARGUMENT;
            }
            if (length < 0 || length >= signs.length) {
                return LIMIT_REACHED;
            }
            signs[length] = (char) character;
            length++;
            return length;
        }

        int makeEmpty() {
            int before = length;
            length = 0;
            return before;
        }

        /** The sign at a place; the number 0, which no sign of a text has, behind the last one. */
        char signAt(int place) {
            boolean exists = place >= 0 && place < length && place < signs.length;
            return exists ? signs[place] : (char) 0;
        }
    }

    /** Reads the orders of work of a text, and does them up to the first fault. */
    private static final class Script {
        static final int WRONG_FORM = 1;
        static final int NOT_DONE = 2;

        int worksDone;
        int faultPlace;
        int faultReason;
        int faultCause;
        private int place;
        private char kind;
        private int first;
        private int second;

        boolean hasFault() {
            return faultReason != 0;
        }

        void doAll(Text text, House house) {
            worksDone = 0;
            faultReason = 0;
            place = 0;
            for (int i = 0; i < Text.MOST_SIGNS && place < text.length; i++) {
                int start = place;
                if (!readWork(text)) {
                    noteFault(start, WRONG_FORM, 0);
                    return;
                }
                int answer = house.doWork(kind, first, second);
                if (answer < 0) {
                    noteFault(start, NOT_DONE, answer);
                    return;
                }
                worksDone++;
            }
        }

        private void noteFault(int start, int reason, int cause) {
            faultPlace = start;
            faultReason = reason;
            faultCause = cause;
        }

        /** Reads the order of work that begins here, and tells whether it is of the form. */
        private boolean readWork(Text text) {
            kind = text.signAt(place);
            boolean hasTwo = kind == 'd' || kind == 'h' || kind == 's';
            if (!hasTwo && kind != 'r' && kind != 't' && kind != 'e') {
                return false;
            }
            place++;
            first = readNumber(text);
            second = 0;
            if (first < 0) {
                return false;
            }
            if (hasTwo) {
                if (!passes(text, ',')) {
                    return false;
                }
                second = readNumber(text);
            }
            return second >= 0 && passes(text, ';');
        }

        /** Reads a number of one or two digits; -1 if none stands here. */
        private int readNumber(Text text) {
            int number = digitOf(text.signAt(place));
            if (number < 0) {
                return -1;
            }
            place++;
            int digit = digitOf(text.signAt(place));
            if (digit < 0) {
                return number;
            }
            place++;
            return number * 10 + digit;
        }

        private static int digitOf(char sign) {
            return sign >= '0' && sign <= '9' ? sign - '0' : -1;
        }

        private boolean passes(Text text, char sign) {
            if (text.signAt(place) != sign) {
                return false;
            }
            place++;
            return true;
        }
    }

    /** Seeks the best plan of dips. */
    private static final class Planner {
        private static final int MOST_DIPS = 4;

        // The lot behind so many dips, so that each try goes on from the dips ahead of it.
        private final Lot[] dipped = new Lot[MOST_DIPS + 1];
        private final int[] path = new int[MOST_DIPS];

        Planner() {
            for (int i = 0; i < dipped.length; i++) {
                dipped[i] = new Lot();
            }
        }

        int vatOfDip(int index) {
            return cellAt(path, index);
        }

        private Lot lotBehind(int dips) {
            return dips >= 0 && dips < dipped.length ? dipped[dips] : null;
        }

        /** How many dips the best plan has, -1 if there is none; the vats are given back unchanged. */
        int findPlan(House house, Lot lot, Order order) {
            Lot undipped = lotBehind(0);
            if (undipped == null) {
                return -1;
            }
            undipped.copyFrom(lot);
            for (int dips = 0; dips <= MOST_DIPS; dips++) {
                if (isReached(this, house, order, 0, dips)) {
                    return dips;
                }
            }
            return -1;
        }

        private static boolean isReached(Planner planner, House house, Order order, int depth, int dips) {
            Lot lot = planner.lotBehind(depth);
            if (lot == null) {
                return false;
            }
            if (depth >= dips) {
                return order.isFittedBy(lot, house.settings);
            }
            Lot next = planner.lotBehind(depth + 1);
            for (int i = 0; i < house.vatCount && next != null; i++) {
                Vat vat = house.findVat(i);
                if (vat == null || vat.grains <= 0) {
                    continue;
                }
                int grains = vat.grains;
                int dirt = vat.dirt;
                next.copyFrom(lot);
                next.soakIn(vat, house.settings);
                putAt(planner.path, depth, i);
                boolean reached = isReached(planner, house, order, depth + 1, dips);
                vat.grains = grains;
                vat.dirt = dirt;
                if (reached) {
                    return true;
                }
            }
            return false;
        }
    }
}
