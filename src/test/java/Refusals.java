import java.util.ArrayList;
import java.util.Arrays;
import java.util.List;

/**
 * Shows that calls that return an error change nothing: behind each of them a house answers all
 * that can be asked, all that it was before its latest changes, and what its text does, as a house
 * that had the same calls but for that one.
 */
final class Refusals {
    private final String title;
    private final String[] stage;
    private final List<String> all;
    private final List<String> some;
    private final List<Integer> look;
    private final List<Integer> past;
    private final List<Integer> played;

    Refusals(String title, String... stage) {
        this.title = title;
        this.stage = stage;
        Calls house = Calls.of(title, stage);
        int vats = house.answer("count(0)");
        int lots = house.answer("count(1)");
        int orders = house.answer("count(7)");
        all = Arrays.asList(everything(vats, lots, orders).split(";"));
        some = Arrays.asList(mostOfIt(vats, lots).split(";"));
        look = look(new String[0]);
        past = past(new String[0]);
        played = played(new String[0]);
    }

    /** Each of these rows is run alone behind the stage. */
    Refusals refuse(String... rows) {
        for (String row : rows) {
            int answer = Integer.parseInt(row.substring(row.indexOf('=') + 1).trim());
            Calls.check(title + ": " + row + " is an error", answer < 0 ? 1 : 0, 1);
            compare(row + ", then", all, look(row), look);
            compare(row + ", then undone", some, past(row), past);
            compare(row + ", then played", some, played(row), played);
        }
        return this;
    }

    private void compare(String behind, List<String> asked, List<Integer> got, List<Integer> due) {
        Calls.check(title + ": " + behind + " the number of answers", got.size(), due.size());
        for (int i = 0; i < got.size() && i < due.size(); i++) {
            String call = i < asked.size() ? asked.get(i) : "a later call";
            Calls.check(title + ": " + behind + " " + call, got.get(i), due.get(i));
        }
    }

    /** Asks all questions, on as many houses as the limit of calls asks for. */
    private List<Integer> look(String... refused) {
        List<Integer> answers = new ArrayList<>();
        int most = Calls.MOST_CALLS - callsOf(stage) - refused.length;
        for (int from = 0; from < all.size(); from += most) {
            Calls house = Calls.of(title, stage).then(refused);
            for (String call : all.subList(from, Math.min(all.size(), from + most))) {
                answers.add(house.answer(call));
            }
        }
        return answers;
    }

    /** Goes back through the whole history, and asks some questions at each state. */
    private List<Integer> past(String... refused) {
        List<Integer> answers = new ArrayList<>();
        Calls house = Calls.of(title, stage).then(refused);
        int left = 0;
        while (left >= 0) {
            for (String call : some) {
                answers.add(house.answer(call));
            }
            left = house.answer("undo()");
            answers.add(left);
        }
        return answers;
    }

    private List<Integer> played(String... refused) {
        List<Integer> answers = new ArrayList<>();
        Calls house = Calls.of(title, stage).then(refused);
        for (String call : new String[] {"play()", "clearText()", "type(100)", "fault(0)"}) {
            answers.add(house.answer(call));
        }
        for (String call : some) {
            answers.add(house.answer(call));
        }
        return answers;
    }

    private static int callsOf(String[] rows) {
        int calls = 0;
        for (String row : rows) {
            calls += row.startsWith("text ") ? row.length() - 4 : 1;
        }
        return calls;
    }

    private static String everything(int vats, int lots, int orders) {
        StringBuilder asked = new StringBuilder(mostOfIt(vats, lots));
        for (int vat = 0; vat <= vats; vat++) {
            asked.append(";vatAt(" + vat + ")");
            for (int what = 0; what <= 4; what++) {
                asked.append(";vatOf(" + vat + ", " + what + ")");
            }
        }
        for (int lot = 0; lot < lots; lot++) {
            for (int what = 0; what <= 9; what++) {
                asked.append(";lotOf(" + lot + ", " + what + ")");
            }
            for (int dye = 0; dye <= 3; dye++) {
                asked.append(";shade(" + lot + ", " + dye + ");shadeBits(" + lot + ", " + dye + ")");
            }
            asked.append(";match(" + lot + ", 0);takes(" + lot + ", 0, 30)");
        }
        for (int order = 0; order < orders; order++) {
            for (int what = 0; what <= 6; what++) {
                asked.append(";orderOf(" + order + ", " + what + ")");
            }
        }
        for (int dye = 0; dye <= 3; dye++) {
            asked.append(";meanBits(" + dye + ");alike(" + dye + ")");
        }
        return asked.append(";plan(0, 0, -1);plan(8, 1, -1);plan(8, 1, 0)").toString();
    }

    private static String mostOfIt(int vats, int lots) {
        StringBuilder asked = new StringBuilder("fault(0);fault(1);fault(2)");
        for (int what = 0; what <= 26; what++) {
            asked.append(";count(" + what + ")");
        }
        for (int dye = 0; dye <= 3; dye++) {
            for (int what = 0; what <= 5; what++) {
                asked.append(";account(" + dye + ", " + what + ")");
            }
        }
        for (int vat = 0; vat < vats; vat++) {
            asked.append(";vatOf(" + vat + ", 2)");
        }
        for (int lot = 0; lot < lots; lot += 4) {
            asked.append(";lotOf(" + lot + ", 3);lotOf(" + lot + ", 5)");
        }
        return asked.toString();
    }
}
