/** Promises 24 and 25: the fewest days to a hostel, and the ways to read blotted pages. */
final class PlanTest {
    private PlanTest() {
    }

    private static void fewestDays() {
        Script.run("fewestDays", """
                addHostel 70 1 24
                addHostel 60 1 24
                addHostel 50 1 24
                addHostel 90 1 24
                addHostel 200 1 24
                addPilgrim 2 0
                set 0 30
                fewestDays 1 0 0 = IOOBE
                fewestDays 0 5 0 = IOOBE
                fewestDays 0 -1 0 = IOOBE
                fewestDays 0 5 2 = IOOBE
                fewestDays 0 0 2 = IAE
                fewestDays 0 0 -1 = IAE
                fewestDays 0 2 0 = 0
                fewestDays 0 2 1 = -1
                fewestDays 0 0 0 = 1
                fewestDays 0 0 1 = 0
                fewestDays 0 1 1 = 1
                fewestDays 0 3 0 = 2    # by 70 or by 60
                fewestDays 0 3 1 = 0    # the lower number of these
                fewestDays 0 4 0 = -1
                fewestDays 0 4 1 = -1
                walk 0 1
                fewestDays 0 1 0 = 0
                fewestDays 0 3 0 = 2    # stays on the present day
                fewestDays 0 3 1 = 1
                fewestDays 0 2 0 = 2
                fewestDays 0 2 1 = 1
                """);
        Script.run("fewestDays with rests", """
                addHostel 0 0 24
                addHostel 47 0 24
                addHostel 94 0 24
                addPilgrim 0 0
                set 0 60
                set 5 17                # 47 km: 79
                set 3 2
                fewestDays 0 2 0 = 30   # 29 beds, from 79 down to 21
                fewestDays 0 2 1 = 1
                set 3 3
                fewestDays 0 2 0 = 21   # 20 beds, from 79 down to 19
                set 3 1
                fewestDays 0 2 0 = -1
                fewestDays 0 2 1 = -1
                set 3 2
                walk 0 1
                fewestDays 0 2 0 = 30
                fewestDays 0 2 1 = 1
                fewestDays 0 0 0 = 30
                evening                 # the floor gives 10
                fewestDays 0 2 0 = 25   # 24 beds, from 69 down to 21
                """);
        Script.run("31 days are too many", """
                addHostel 0 0 24
                addHostel 50 0 24
                addHostel 100 0 24
                addPilgrim 0 0
                set 0 60
                set 5 16                # 50 km: 80
                set 3 2
                fewestDays 0 2 0 = -1   # 30 beds, from 80 down to 20
                fewestDays 0 1 0 = 1
                """);
        Script.run("fewestDays and closed doors", """
                addHostel 0 0 24
                addHostel 47 0 8
                addHostel 94 0 8
                addPilgrim 0 0
                set 0 60
                set 5 17
                set 3 60
                fewestDays 0 2 0 = 4    # outside: from 79 to 89; two beds: 29, 0
                fewestDays 0 2 1 = 1
                walk 0 1 = 15
                pilgrim 0 1 = 0
                fewestDays 0 2 0 = 4
                """);
        Script.run("a plan that comes just at the closing hour", """
                addHostel 0 0 24
                addHostel 47 0 15
                addHostel 94 0 24
                addPilgrim 0 0
                set 0 60
                set 5 17
                set 3 58
                fewestDays 0 2 0 = 2    # inside at 15: from 79 to 21
                set 3 57
                fewestDays 0 2 0 = 3
                set 3 58
                set 2 8
                fewestDays 0 2 0 = 4    # outside at 16: from 79 to 89; two beds: 31, 0
                """);
        rests("the first walk has the lower number", "0 100", "1 70", "2 40", 1);
        rests("the rest on the first day has the lower number", "2 100", "1 70", "0 40", 0);
    }

    /** With 20 of weariness, two walks of 60 each need a rest between them or ahead of them: three days. */
    private static void rests(String title, String goal, String between, String begin, int first) {
        String[] hostels = new String[3];
        for (String one : new String[] {goal, between, begin}) {
            String[] numberAndPlace = one.split(" ");
            hostels[Integer.parseInt(numberAndPlace[0])] = "addHostel " + numberAndPlace[1] + " 0 24\n";
        }
        String number = begin.split(" ")[0];
        String to = "fewestDays 0 " + goal.split(" ")[0];
        Script.run(title, String.join("", hostels) + """
                addHostel 30 0 24
                addPilgrim 3 0
                set 5 20
                set 0 30
                set 3 30
                set 4 0
                """ + "walk 0 " + number + " = 9\nevening\npilgrim 0 3 = 20\n" + to + " 0 = 3\n" + to + " 1 = " + first);
    }

    private static void readings() {
        Script.run("readings", """
                addHostel 0 8 24
                addHostel 40 8 24
                addHostel 81 8 24
                addPilgrim 0 0
                addPilgrim 2 0
                readings 0 0 0 = IAE
                evening
                walk 0 1
                evening
                evening
                readings 2 0 0 = IOOBE
                readings -1 0 0 = IOOBE
                readings 2 3 3 = IOOBE
                readings 0 -1 0 = IAE
                readings 0 0 3 = IAE
                readings 0 3 3 = IAE
                readings 0 2 1 = IAE
                readings 0 0 2 = 1
                blot 0 0
                readings 0 0 0 = 1      # the one page that is blotted
                blot 1 0
                readings 0 0 0 = 2
                blot 2 0
                readings 0 0 0 = 3
                readings 0 0 1 = 2      # 81 is too far from 40
                set 0 41
                readings 0 0 1 = 3
                set 0 39
                readings 0 0 1 = 1
                readings 1 1 2 = 1
                readings 1 0 2 = 1
                blot 0 2
                readings 0 2 2 = 1      # the pilgrim is read at hostel 1
                count 11 = 6
                """);
        Script.run("readings of a day outside", """
                addHostel 0 8 24
                addHostel 12 8 8
                addPilgrim 0 0
                walk 0 1 = 9
                evening
                readings 0 0 0 = 0
                evening
                readings 0 0 1 = 0
                blot 0 0
                readings 0 0 0 = 1
                readings 0 0 1 = 1
                blot 1 0
                readings 0 0 1 = 2
                """);
        StringBuilder lines = new StringBuilder("addHostel 0 8 24\naddHostel 12 8 8\naddPilgrim 0 0\n40 times: evening\n");
        for (int day = 0; day < 30; day++) {
            lines.append("blot 0 ").append(day).append("\nblot 1 ").append(day).append('\n');
        }
        Script.run("many readings", lines + """
                readings 0 0 18 = 524288
                readings 0 0 19 = 1000000
                readings 0 0 29 = 1000000
                readings 0 0 30 = IAE
                readings 0 29 39 = 2
                readings 0 10 39 = 1000000
                readings 0 9 39 = IAE
                set 0 5
                readings 0 0 29 = 2     # 12 is too far now
                """);
    }

    private static void manyThatLeadNowhere() {
        StringBuilder lines = new StringBuilder("addHostel 0 8 24\naddHostel 1 8 24\naddHostel 300 8 24\naddPilgrim 2 0\n");
        lines.append("30 times: evening\n");
        for (int day = 0; day < 29; day++) {
            lines.append("blot 0 ").append(day).append("\nblot 1 ").append(day).append("\nblot 2 ").append(day).append('\n');
        }
        Script.run("a million rows that lead nowhere", lines + """
                readings 0 0 28 = 1000000
                readings 0 0 29 = 1
                """);
    }

    private static void tenHostels() {
        StringBuilder lines = new StringBuilder();
        for (int i = 0; i < 10; i++) {
            lines.append("addHostel ").append(30 * i).append(" 8 24\n");
        }
        lines.append("addPilgrim 0 0\nset 0 29\nfewestDays 0 9 0 = -1\nfewestDays 0 1 1 = -1\nset 0 30\nset 5 1\n");
        lines.append("fewestDays 0 9 0 = 9\nfewestDays 0 9 1 = 1\n30 times: evening\n");
        for (int i = 0; i < 10; i++) {
            for (int day = 0; day < 3; day++) {
                lines.append("blot ").append(i).append(' ').append(day).append('\n');
            }
        }
        Script.run("ten hostels", lines + """
                readings 0 0 0 = 10
                readings 0 0 1 = 28     # 2 neighbours or 3 for each, with itself
                readings 0 0 2 = 80     # by the hostel of the day between: 2 * 4 and 8 * 9
                readings 0 0 3 = 13     # then at hostel 0: 5 by hostel 0 ahead of it, 8 by hostel 1
                """);
    }

    public static void main(String[] arguments) {
        fewestDays();
        readings();
        tenHostels();
        manyThatLeadNowhere();
        Script.end();
    }
}
