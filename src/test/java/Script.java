import java.util.ArrayList;
import java.util.List;

/**
 * Runs calls written as the document writes its examples, "place(1) = 0; link(0, 1, 2) = 0", each script on a
 * new object. A call that has to throw is written "place(10) = throws.IllegalArgumentException"; "3 * pass(60)"
 * makes the call three times, of which the last answer counts (if it throws, each time); "place(-1) | place(10)"
 * are calls of like answers; MIN and MAX are the least and the greatest int.
 *
 * "A method that throws an exception changes nothing": at each call that throws, everything that can be asked of
 * an object that saw the calls before it is compared with what one answers that saw that call, too; and at the
 * script's end once more, without all the calls that threw.
 */
final class Script {
    /** What later calls answer is free. */
    private static final int MOST_CALLS = 512;

    private static int wrong = 0;

    private final String name;
    private final Cryway street = new Cryway();
    private final List<String> all = new ArrayList<>();
    private final List<String> kept = new ArrayList<>();
    private List<String> answersOfKept = null;

    private Script(String name) {
        this.name = name;
    }

    static void run(String name, String... lines) {
        Script script = new Script(name);
        for (String line : String.join(";", lines).split(";")) {
            if (!line.isBlank()) {
                script.playLine(line.trim());
            }
        }
        script.end();
    }

    static void finish(String test) {
        System.out.println(test + ": " + (wrong == 0 ? "all answers are as due" : wrong + " are wrong"));
        if (wrong != 0) {
            System.exit(1);
        }
    }

    static void due(String name, String call, String got, String due) {
        if (!got.equals(due)) {
            wrong++;
            System.out.println(name + ": " + call + " answered " + got + ", due is " + due);
        }
    }

    /** The answer of one call, or "throws." and the very class that it threw. */
    static String answer(Cryway street, String call) {
        return Call.of(call).on(street);
    }

    private void playLine(String line) {
        int equals = line.lastIndexOf('=');
        String due = line.substring(equals + 1).trim();
        for (String call : line.substring(0, equals).split("\\|")) {
            playOften(call.trim(), due);
        }
    }

    private void playOften(String call, String due) {
        int star = call.indexOf('*');
        int times = star < 0 ? 1 : Integer.parseInt(call.substring(0, star).trim());
        String once = call.substring(star + 1).trim();
        for (int i = 1; i <= times; i++) {
            String got = play(once);
            boolean throwsOnce = due.startsWith("throws.") || got.startsWith("throws.");
            if (i == times || throwsOnce) {
                due(name, call, got, due);
            }
        }
    }

    private String play(String call) {
        String got = answer(street, call);
        all.add(call);
        if (!got.startsWith("throws.")) {
            kept.add(call);
            answersOfKept = null;
        } else if (all.size() < MOST_CALLS) {
            List<String> past = new ArrayList<>(kept);
            past.add(call);
            compare(past, "behind " + call + ", which threw and must change nothing");
        }
        return got;
    }

    private void end() {
        due(name, "calls of the script, 512 at most", "" + (all.size() <= MOST_CALLS), "true");
        if (all.size() > kept.size() && all.size() < MOST_CALLS) {
            compare(all, "at the end, as without the calls that threw");
        }
    }

    private void compare(List<String> past, String where) {
        Probes probes = Probes.behind(kept);
        if (answersOfKept == null) {
            answersOfKept = ask(kept, probes);
        }
        List<String> answers = ask(past, probes);
        for (int i = 0; i < answers.size(); i++) {
            boolean asked = !answers.get(i).equals("not asked") && !answersOfKept.get(i).equals("not asked");
            if (asked) {
                due(name + " (" + where + ")", probes.call(i), answers.get(i), answersOfKept.get(i));
            }
        }
    }

    /** No object answers too often: questions that change nothing may go on with a new one of the same past. */
    private static List<String> ask(List<String> past, Probes probes) {
        List<String> answers = new ArrayList<>();
        Cryway asked = replay(past);
        int calls = past.size();
        for (int i = 0; i < probes.size(); i++) {
            if (probes.beginsAnew(i) || calls == MOST_CALLS && !probes.changes(i)) {
                asked = replay(past);
                calls = past.size();
            }
            answers.add(calls < MOST_CALLS ? answer(asked, probes.call(i)) : "not asked");
            calls++;
        }
        return answers;
    }

    private static Cryway replay(List<String> past) {
        Cryway street = new Cryway();
        for (String call : past) {
            answer(street, call);
        }
        return street;
    }
}
