import java.util.ArrayList;
import java.util.List;

/**
 * Runs of calls written as lines "call arguments = answer", each run on a new object. IOOBE, IAE and ISE stand for the
 * three exceptions; where one is due, the run is made twice more, with that call and without it, and both objects must
 * look the same. "= not IAE" lets all other answers stand, other exceptions too. "N times: call arguments" makes a call N
 * times, "text X" appends all characters of X; neither looks at the answers. "undone: call arguments" makes the run twice
 * more, with that call and an undo, and without both: fewer than 6 states must be saved then. What stands behind "#" is a
 * remark.
 */
final class Script {
    private static int wrong;
    private static int looked;

    private final String title;
    private final List<String> made = new ArrayList<>();
    private final Calls calls = new Calls(new StampHostels());

    private Script(String title) {
        this.title = title;
    }

    static void run(String title, String lines) {
        Script script = new Script(title);
        for (String whole : lines.split("\n")) {
            String line = whole.replaceAll("#.*", "").trim();
            if (!line.isEmpty()) {
                script.step(line);
            }
        }
    }

    private void step(String line) {
        if (line.startsWith("text ")) {
            for (char c : line.substring(5).trim().toCharArray()) {
                make("append " + (int) c);
            }
        } else if (line.startsWith("undone: ")) {
            isUndone(line.substring(8).trim());
        } else if (line.contains(" times: ")) {
            String[] parts = line.split(" times: ");
            for (int i = 0; i < Integer.parseInt(parts[0].trim()); i++) {
                make(parts[1]);
            }
        } else {
            String[] sides = line.split("=", 2);
            if (sides.length == 1) {
                make(line);
                return;
            }
            String want = sides[1].trim();
            if (want.startsWith("I")) {
                changesNothing(sides[0].trim());
            }
            answered(sides[0].trim(), make(sides[0]), want);
        }
    }

    private void answered(String call, String got, String want) {
        if (want.startsWith("not ")) {
            due(title + ": " + call + " answered " + got + "; " + want, got.equals(want.substring(4)), false);
        } else {
            due(title + ": " + call, got, want);
        }
    }

    private String make(String call) {
        made.add(call);
        return call(calls, call);
    }

    private void changesNothing(String call) {
        Calls with = again();
        call(with, call);
        due(title + ": " + call + " changes", difference(View.of(with), View.of(again())), "nothing");
    }

    private void isUndone(String call) {
        Calls with = again();
        String before = call(with, "digest");
        due(title + ": " + call + " throws", call(with, call).startsWith("I"), false);
        due(title + ": " + call + " changes the digest", call(with, "digest").equals(before), false);
        call(with, "undo");
        due(title + ": " + call + " and undo change", difference(View.of(with), View.of(again())), "nothing");
    }

    private static String difference(String one, String other) {
        String[] lines = one.split("\n");
        String[] others = other.split("\n");
        for (int i = 0; i < Math.min(lines.length, others.length); i++) {
            if (!lines[i].equals(others[i])) {
                return lines[i] + ", without it " + others[i];
            }
        }
        return lines.length == others.length ? "nothing" : "how much is to be seen";
    }

    private Calls again() {
        Calls again = new Calls(new StampHostels());
        for (String one : made) {
            call(again, one);
        }
        return again;
    }

    private static String call(Calls calls, String text) {
        String[] words = text.trim().split("\\s+");
        int[] arguments = new int[words.length - 1];
        for (int i = 0; i < arguments.length; i++) {
            arguments[i] = Integer.parseInt(words[i + 1]);
        }
        return calls.answer(words[0], arguments)
                .replace("throws.IndexOutOfBoundsException", "IOOBE")
                .replace("throws.IllegalArgumentException", "IAE")
                .replace("throws.IllegalStateException", "ISE");
    }

    static void due(String what, Object got, Object want) {
        looked++;
        if (!String.valueOf(got).equals(String.valueOf(want))) {
            wrong++;
            System.out.println(what + " answered " + got + ", due is " + want);
        }
    }

    /** Ends a test: exit code 1 if an answer was not due, or if nothing was looked at. */
    static void end() {
        if (wrong != 0 || looked == 0) {
            System.out.println(wrong + " of " + looked + " answers are not as due");
            System.exit(1);
        }
        System.out.println(looked + " answers are as due");
    }
}
