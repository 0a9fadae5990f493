import java.util.LinkedHashMap;
import java.util.Map;

/**
 * All that can be seen of a room, by some 250 calls. They empty the room, so it is of no use behind
 * them; rooms that were alike are seen alike.
 */
final class Seen {
    private static final int FORMS_ASKED = 10, ITEMS = 14;

    private final Map<String, Long> answers = new LinkedHashMap<>();
    private final FormRoom room;

    private Seen(FormRoom room) {
        this.room = room;
    }

    static Map<String, Long> of(FormRoom room) {
        Seen seen = new Seen(room);
        for (int what = 8; what >= 0; what--) {
            seen.ask("count", what);
        }
        // all FORMS, LAWS and faults are in it
        seen.ask("digest");
        seen.questions();
        seen.boats();
        seen.sheets();
        return seen.answers;
    }

    /** Tells each answer that differs, but for the number of the latest FINDING, which is due by itself. */
    static void alike(Check check, String told, Map<String, Long> now, Map<String, Long> before, long finding) {
        for (String call : before.keySet()) {
            boolean latest = call.equals("count(8)");
            check.due(told + ", then " + call, now.get(call), latest ? finding : before.get(call));
        }
    }

    private void ask(String call, int... arguments) {
        StringBuilder told = new StringBuilder(call).append('(');
        for (int i = 0; i < arguments.length; i++) {
            told.append(i == 0 ? "" : ", ").append(arguments[i]);
        }
        String name = told.append(')').toString();
        // the latest FINDING is asked more than once
        answers.put(answers.containsKey(name) ? name + " behind " + answers.size() : name,
                Face.ask(room, call, arguments));
    }

    private void questions() {
        for (int form = 0; form < Math.min(FORMS_ASKED, room.count(0)); form++) {
            ask("asks", 0, form);
            ask("asks", 1, form);
        }
    }

    private void boats() {
        for (int habit = 0; habit < 3; habit++) {
            for (int hour = 1; hour <= 13; hour++) {
                ask("boat", habit, 12, hour);
            }
            ask("habit", habit, 0);
            ask("wipe", habit + 2);
        }
        ask("wipe", 0);
        ask("wipe", 1);
    }

    private void sheets() {
        for (int s = 0; s < 4; s++) {
            for (int format = 0; format < 3; format++) {
                for (int i = 0; i < ITEMS; i++) {
                    ask("get", s, format, i);
                }
                // LOST, another FORMAT or short of items: get() answers all of them alike
                ask("count", 8);
            }
            ask("lose", s);
        }
    }
}
