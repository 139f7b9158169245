/**
 * The least and the greatest value of each argument, and the ones just outside, in a small and in a full state; and
 * which exception comes where several apply. Each refused call must change nothing (see Script).
 */
final class RangeEdgesTest {
    private static final String SMALL = """
            addHostel 0 1 24
            addHostel 30 0 24
            addHostel 60 8 12
            addPilgrim 0 100
            addPilgrim 1 0
            evening
            walk 0 1
            evening
            evening
            text a0
            """;

    private RangeEdgesTest() {
    }

    /** 10 hostels, 8 pilgrims, 4 days, and a row of 60 characters which is a list of stamps. */
    private static String full() {
        StringBuilder lines = new StringBuilder();
        for (int i = 0; i < 10; i++) {
            lines.append("addHostel ").append(30 * i).append(" 1 24\n");
        }
        for (int i = 0; i < 8; i++) {
            lines.append("addPilgrim ").append(i).append(" 100\n");
        }
        return lines + "3 times: evening\ntext a100,b200,a300,b400,a500,b600,a700,b800,a900,b10,a20,b30,j40\n";
    }

    /** Each line: a call; then for each of its arguments the least value, the greatest one, and what comes beside them. */
    private static void ranges(String title, String state, String table) {
        for (String line : table.split("\n")) {
            String[] sides = line.split(":");
            String[] call = sides[0].trim().split(" ");
            String[] arguments = sides[1].trim().split("\\s*,\\s*");
            for (int i = 0; i < arguments.length; i++) {
                String[] range = arguments[i].split(" ");
                int least = Integer.parseInt(range[0]);
                int greatest = Integer.parseInt(range[1]);
                String name = title + ", argument " + i + " from " + least + " to " + greatest;
                for (int outside : new int[] {least - 1, greatest + 1, Integer.MIN_VALUE, Integer.MAX_VALUE}) {
                    Script.run(name, state + with(call, i, outside) + " = " + range[2]);
                }
                Script.run(name, state + with(call, i, least) + " = not " + range[2]);
                Script.run(name, state + with(call, i, greatest) + " = not " + range[2]);
            }
        }
    }

    private static String with(String[] call, int argument, int value) {
        String[] changed = call.clone();
        changed[argument + 1] = String.valueOf(value);
        return String.join(" ", changed);
    }

    private static void allRanges() {
        ranges("a small state", SMALL, """
                addHostel 50 2 12: 0 300 IAE, 0 8 IAE, 8 24 IAE
                addPilgrim 0 10: 0 2 IOOBE, 0 1000 IAE
                set 0 40: 0 6 IOOBE, 5 60 IAE
                set 1 5: 0 6 IOOBE, 0 20 IAE
                set 2 7: 0 6 IOOBE, 4 12 IAE
                set 3 40: 0 6 IOOBE, 0 60 IAE
                set 4 10: 0 6 IOOBE, 0 60 IAE
                set 5 8: 0 6 IOOBE, 1 20 IAE
                set 6 10: 0 6 IOOBE, 0 50 IAE
                walk 0 2: 0 1 IOOBE, 0 2 IOOBE
                ride 0 2: 0 1 IOOBE, 0 2 IOOBE
                lose 0: 0 1 IOOBE
                rebuild 0: 0 1 IOOBE
                blot 0 0: 0 2 IOOBE, 0 2 IAE
                append 97: 33 126 IAE
                forge 0: 0 1 IOOBE
                hostel 0 0: 0 2 IOOBE, 0 7 IAE
                pilgrim 0 0: 0 1 IOOBE, 0 9 IAE
                stamp 0 0 0: 0 1 IOOBE, 0 2 IOOBE, 0 2 IAE
                page 0 0: 0 2 IOOBE, 0 2 IAE
                count 0: 0 11 IAE
                setting 0: 0 6 IOOBE
                whyNot 0 0: 0 1 IOOBE, 0 2 IOOBE
                bedPlace 0: 0 1 IOOBE
                fewestDays 0 0 0: 0 1 IOOBE, 0 2 IOOBE, 0 1 IAE
                readings 0 0 2: 0 1 IOOBE, 0 2 IAE, 0 2 IAE
                readings 0 1 1: 0 1 IOOBE, 0 1 IAE, 1 2 IAE
                alike 0: 0 1 IOOBE
                """);
        ranges("a full state", full(), """
                addHostel 5 2 12: 0 300 IAE, 0 8 IAE, 8 24 IAE
                addPilgrim 0 10: 0 9 IOOBE, 0 1000 IAE
                walk 0 2: 0 7 IOOBE, 0 9 IOOBE
                ride 0 2: 0 7 IOOBE, 0 9 IOOBE
                lose 0: 0 7 IOOBE
                rebuild 0: 0 7 IOOBE
                blot 0 0: 0 9 IOOBE, 0 2 IAE
                append 97: 33 126 IAE
                forge 0: 0 7 IOOBE
                hostel 0 0: 0 9 IOOBE, 0 7 IAE
                pilgrim 0 0: 0 7 IOOBE, 0 9 IAE
                stamp 0 0 0: 0 7 IOOBE, 0 2 IOOBE, 0 2 IAE
                page 0 0: 0 9 IOOBE, 0 2 IAE
                whyNot 0 0: 0 7 IOOBE, 0 9 IOOBE
                bedPlace 0: 0 7 IOOBE
                fewestDays 0 0 0: 0 7 IOOBE, 0 9 IOOBE, 0 1 IAE
                readings 0 0 2: 0 7 IOOBE, 0 2 IAE, 0 2 IAE
                alike 0: 0 7 IOOBE
                """);
    }

    private static void nothingThere() {
        Script.run("no hostel, no pilgrim, no day", """
                addPilgrim 0 0 = IOOBE
                addPilgrim -1 0 = IOOBE
                walk 0 0 = IOOBE
                ride 0 0 = IOOBE
                lose 0 = IOOBE
                rebuild 0 = IOOBE
                blot 0 0 = IOOBE
                forge 0 = IOOBE
                undo = ISE
                hostel 0 0 = IOOBE
                pilgrim 0 0 = IOOBE
                stamp 0 0 0 = IOOBE
                page 0 0 = IOOBE
                whyNot 0 0 = IOOBE
                bedPlace 0 = IOOBE
                fewestDays 0 0 0 = IOOBE
                readings 0 0 0 = IOOBE
                alike 0 = IOOBE
                meanWeariness = 0.0
                firstError = 0
                clearBuffer = 0
                evening = 0
                count 2 = 1
                """);
        StringBuilder zeros = new StringBuilder();
        for (int what = 0; what <= 11; what++) {
            zeros.append("count ").append(what).append(" = 0\n");
        }
        Script.run("without hostels and pilgrims, on the day 0, with an empty pool and an empty buffer", zeros.toString());
        Script.run("a hostel, no pilgrim, no day", """
                addHostel 0 1 24
                walk 0 0 = IOOBE
                ride 0 0 = IOOBE
                lose 0 = IOOBE
                rebuild 0 = IOOBE
                blot 0 0 = IAE
                page 0 0 = IAE
                text a0
                forge 0 = IOOBE
                whyNot 0 0 = IOOBE
                bedPlace 0 = IOOBE
                fewestDays 0 0 0 = IOOBE
                readings 0 0 0 = IOOBE
                alike 0 = IOOBE
                meanWeariness = 0.0
                hostel 0 5 = 0
                hostel 0 6 = 0
                hostel 0 7 = 0
                evening = 0
                page 0 0 = 0
                """);
        Script.run("a hostel, a pilgrim, no day, no stamp", """
                addHostel 0 1 24
                addPilgrim 0 0
                stamp 0 0 0 = IOOBE
                lose 0 = 0
                rebuild 0 = 0
                alike 0 = 0
                readings 0 0 0 = IAE
                page 0 0 = IAE
                blot 0 0 = IAE
                forge 0 = IAE
                bedPlace 0 = 0
                fewestDays 0 0 0 = 0
                fewestDays 0 0 1 = -1
                meanWeariness = 0.0
                pilgrim 0 5 = 0
                pilgrim 0 6 = 0
                pilgrim 0 7 = 0
                """);
    }

    /** If several exceptions apply, the one that is named first in the throws clause is thrown. */
    private static void severalAtOnce() {
        String full = full();
        Script.run("addHostel: out of range, and 10 hostels, and one at this place", full + """
                addHostel 301 1 24 = IAE
                addHostel 0 9 24 = IAE
                addHostel 0 1 25 = IAE
                addHostel 0 1 24 = ISE
                addHostel 1 1 24 = ISE
                """);
        Script.run("addHostel: out of range, and one at this place", SMALL + """
                addHostel 0 9 24 = IAE
                addHostel 30 1 7 = IAE
                addHostel 30 1 8 = ISE
                """);
        Script.run("addPilgrim: no such hostel, money out of range, 8 pilgrims", full + """
                addPilgrim 10 1001 = IOOBE
                addPilgrim 10 0 = IOOBE
                addPilgrim 0 1001 = IAE
                addPilgrim -1 -1 = IOOBE
                addPilgrim 0 -1 = IAE
                addPilgrim 0 0 = ISE
                """);
        Script.run("addPilgrim: no such hostel, money out of range", SMALL + "addPilgrim 3 1001 = IOOBE\naddPilgrim 3 -1 = IOOBE");
        Script.run("set: no such setting, value out of range", "set 7 1000 = IOOBE\nset -1 -1 = IOOBE\nset 7 -1 = IOOBE");
        String moved = SMALL + "walk 0 2\n";
        Script.run("walk: no such hostel, and a reason", moved + """
                walk 0 3 = IOOBE
                walk 0 -1 = IOOBE
                walk 2 2 = IOOBE
                walk 2 3 = IOOBE
                walk 0 1 = ISE
                """);
        Script.run("ride: no such hostel, and a reason", moved + """
                ride 0 3 = IOOBE
                ride 0 -1 = IOOBE
                ride 2 2 = IOOBE
                ride 1 3 = IOOBE            # has no money either
                ride 1 0 = ISE
                ride 0 1 = ISE
                """);
        Script.run("blot: no such hostel, day out of range, a blotted page", SMALL + """
                blot 3 3 = IOOBE
                blot 3 -1 = IOOBE
                blot -1 0 = IOOBE
                blot 0 0 = 1
                blot 3 0 = IOOBE
                blot 0 3 = IAE
                blot 0 0 = ISE
                """);
        Script.run("forge: no such pilgrim, no complete list, no such hostel", SMALL + """
                text ,j0,
                forge 2 = IOOBE
                forge -1 = IOOBE
                forge 0 = IAE
                clearBuffer
                forge 2 = IOOBE             # an empty buffer
                text j0
                forge 2 = IOOBE
                forge 0 = ISE
                text k
                forge 0 = IAE
                """);
        Script.run("hostel, pilgrim, stamp, page: no such one, and a wrong what or day", SMALL + """
                hostel 3 8 = IOOBE
                hostel -1 -1 = IOOBE
                pilgrim 2 10 = IOOBE
                pilgrim -1 -1 = IOOBE
                stamp 2 0 3 = IOOBE
                stamp 0 3 3 = IOOBE
                stamp 0 -1 -1 = IOOBE
                stamp 2 9 9 = IOOBE
                page 3 3 = IOOBE
                page -1 -1 = IOOBE
                """);
        Script.run("fewestDays, readings: no such one, and a wrong what or day", SMALL + """
                fewestDays 2 0 2 = IOOBE
                fewestDays 0 3 2 = IOOBE
                fewestDays 0 3 -1 = IOOBE
                readings 2 -1 0 = IOOBE
                readings 2 0 3 = IOOBE
                readings -1 2 1 = IOOBE
                """);
        Script.run("append: no character, and a full buffer", full + "append 32 = IAE\nappend 127 = IAE\nappend 33 = ISE");
    }

    private static void theLastDay() {
        Script.run("evening: if the number of the day is 999", """
                addHostel 0 1 24
                addHostel 30 1 24
                addPilgrim 0 100
                998 times: evening
                count 2 = 998
                walk 0 1 = 12
                evening = 1
                count 2 = 999
                evening = ISE
                page 1 998 = 1
                page 1 999 = IAE
                blot 0 999 = IAE
                readings 0 969 998 = 1
                readings 0 998 999 = IAE
                readings 0 968 998 = IAE
                pilgrim 0 5 = 999
                alike 0 = 999
                walk 0 0 = 12
                evening = ISE
                undo
                blot 1 998 = 1
                rebuild 0 = 998
                undo
                undo
                undo
                count 2 = 998
                evening = 1
                evening = ISE
                """);
    }

    public static void main(String[] arguments) {
        allRanges();
        nothingThere();
        severalAtOnce();
        theLastDay();
        Script.end();
    }
}
