/**
 * Runs of calls written as lines "call arguments = answer", each run on a new object. "throws IOOBE", "IAE" and "ISE"
 * stand for the three exceptions. "N times: call arguments" makes a call N times, "text X" appends all characters of X;
 * neither looks at the answers. What stands behind "#" is a remark.
 */
final class Script {
    private static int wrong;
    private static int looked;

    private Script() {
    }

    static void run(String title, String lines) {
        Calls calls = new Calls(new StampHostels());
        for (String whole : lines.split("\n")) {
            String line = whole.replaceAll("#.*", "").trim();
            if (!line.isEmpty()) {
                step(title, calls, line);
            }
        }
    }

    private static void step(String title, Calls calls, String line) {
        if (line.startsWith("text ")) {
            for (char c : line.substring(5).trim().toCharArray()) {
                calls.answer("append", c);
            }
        } else if (line.contains(" times: ")) {
            String[] parts = line.split(" times: ");
            for (int i = 0; i < Integer.parseInt(parts[0].trim()); i++) {
                call(calls, parts[1]);
            }
        } else {
            String[] sides = line.split("=", 2);
            String got = call(calls, sides[0]);
            if (sides.length == 2) {
                due(title + ": " + sides[0].trim(), got, sides[1].trim());
            }
        }
    }

    private static String call(Calls calls, String text) {
        String[] words = text.trim().split("\\s+");
        int[] arguments = new int[words.length - 1];
        for (int i = 0; i < arguments.length; i++) {
            arguments[i] = Integer.parseInt(words[i + 1]);
        }
        return calls.answer(words[0], arguments)
                .replace("throws.IndexOutOfBoundsException", "IOOBE")
                .replace("throws.IllegalArgumentException", "IAE")
                .replace("throws.IllegalStateException", "ISE");
    }

    static void due(String what, Object got, Object want) {
        looked++;
        if (!String.valueOf(got).equals(String.valueOf(want))) {
            wrong++;
            System.out.println(what + " answered " + got + ", due is " + want);
        }
    }

    /** Ends a test: exit code 1 if an answer was not due, or if nothing was looked at. */
    static void end() {
        if (wrong != 0 || looked == 0) {
            System.out.println(wrong + " of " + looked + " answers are not as due");
            System.exit(1);
        }
        System.out.println(looked + " answers are as due");
    }
}
