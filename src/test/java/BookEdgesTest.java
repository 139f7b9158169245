/** The edges that the books and "Proofs" name among the terms, and the promises 8 to 10, 18, 19, 25 and 26. */
final class BookEdgesTest {
    private BookEdgesTest() {
    }

    private static void pages() {
        Script.run("The book of a hostel has a page for each day (also for those before the hostel came).", """
                addHostel 0 1 24
                addPilgrim 0 0
                evening
                evening
                addHostel 10 1 24 = 1
                page 1 0 = 0
                page 1 1 = 0
                page 1 2 = IAE
                blot 1 0 = 0
                page 1 0 = -1
                page 1 1 = 0
                page 0 0 = 1
                count 9 = 1
                """);
        StringBuilder ten = new StringBuilder();
        for (int i = 0; i < 9; i++) {
            ten.append("addHostel ").append(10 * i).append(" 1 24\n");
        }
        Script.run("(also for those before the hostel came): the tenth one", ten + """
                addPilgrim 8 0
                evening
                addHostel 90 1 24 = 9
                page 9 0 = 0
                page 8 0 = 1
                blot 9 0 = 0
                page 8 0 = 1
                page 9 0 = -1
                """);
        Script.run("A page can be blotted; then nothing can be read on it any more.", """
                addHostel 0 1 24
                addPilgrim 0 0
                addPilgrim 0 0
                evening
                hostel 0 7 = 2
                count 9 = 0
                blot 0 0 = 2
                count 9 = 1
                page 0 0 = -1
                hostel 0 7 = 0
                rebuild 0 = 0
                alike 1 = 0
                readings 0 0 0 = 1
                blot 0 0 = ISE
                """);
        Script.run("blot: day, 0 up to the number of the day less 1", """
                addHostel 0 1 24
                blot 0 0 = IAE              # no day has passed
                evening
                blot 0 1 = IAE
                blot 0 -1 = IAE
                blot 0 -2147483648 = IAE
                blot 0 2147483647 = IAE
                blot 0 214748365 = IAE
                blot 0 0 = 0
                evening
                blot 0 2 = IAE
                blot 0 1 = 0
                """);
        Script.run("blot: Returns how many pilgrims were entered on it.", """
                addHostel 0 1 24
                addHostel 300 1 24
                addPilgrim 0 0
                evening
                7 times: addPilgrim 0 0
                evening
                blot 1 1 = 0
                blot 0 0 = 1
                blot 0 1 = 8
                """);
        Script.run("page: day, 0 up to the number of the day less 1", """
                addHostel 0 1 24
                page 0 0 = IAE              # no day has passed
                evening
                page 0 1 = IAE
                page 0 -1 = IAE
                page 0 -2147483648 = IAE
                page 0 2147483647 = IAE
                page 0 214748365 = IAE
                page 0 0 = 0
                evening
                page 0 2 = IAE
                page 0 1 = 0
                """);
        Script.run("page: as a bit mask; NONE if it is blotted", """
                addHostel 0 1 24
                addHostel 300 1 24
                7 times: addPilgrim 0 0
                addPilgrim 1 0
                evening
                page 0 0 = 127
                page 1 0 = 128
                blot 1 0 = 1
                page 1 0 = -1
                page 0 0 = 127
                undo
                page 1 0 = 128
                """);
    }

    private static final String THREE = "addHostel 0 1 24\naddHostel 40 1 24\naddHostel 300 1 24\naddPilgrim 0 0\n";

    /** A pass of these stamps alone proves this distance by the setting 0. */
    private static void proof(String sentence, String stamps, int longest, int proven) {
        Script.run(sentence + ": " + stamps + " by " + longest,
                THREE + (stamps.isEmpty() ? "" : "text " + stamps + "\nforge 0\n") + "set 0 " + longest + "\npilgrim 0 6 = " + proven);
    }

    private static void proofs() {
        String following = "the sum, over all pairs of stamps that follow one another";
        proof(following, "", 40, 0);
        proof(following, "a0", 40, 0);
        proof(following, "a0,b1", 40, 40);
        proof(following, "a0,b1,a2,b3", 40, 120);
        proof(following, "a0,a1,b2", 40, 40);
        String later = "if the second one has a later day";
        proof(later, "a5,b5", 60, 0);
        proof(later, "a5,b4", 60, 0);
        proof(later, "a5,b6", 60, 40);
        proof(later, "a0,b999", 60, 40);
        proof(later, "a999,b0", 60, 0);
        String most = "this distance is at most setting 0 times the difference of the days";
        proof(most, "a0,b1", 39, 0);
        proof(most, "a0,b1", 41, 40);
        proof(most, "a0,b2", 20, 40);
        proof(most, "a0,b2", 19, 0);
        proof(most, "a0,c5", 60, 300);
        proof(most, "a0,c4", 60, 0);
        proof(most, "a0,c60", 5, 300);
        proof(most, "c0,a59", 5, 0);
        String adds = "a pair for which that is not so adds nothing";
        proof(adds, "a0,c1,a7,b8", 60, 340);
        proof(adds, "a0,b1,b1,a2", 40, 80);
    }

    private static void falseStamps() {
        Script.run("A stamp is false if the page of its hostel and its day is not blotted", """
                addHostel 0 1 24
                addHostel 40 1 24
                addPilgrim 0 0
                evening
                text b0
                forge 0 = 2
                stamp 0 0 2 = 0
                stamp 0 1 2 = 1
                pilgrim 0 7 = 1
                blot 1 0
                stamp 0 1 2 = 0
                pilgrim 0 7 = 0
                undo
                stamp 0 1 2 = 1
                blot 0 0
                stamp 0 0 2 = 0             # the pilgrim was entered, and nothing tells
                stamp 0 1 2 = 1
                """);
        Script.run("and the pilgrim is not entered on it", """
                addHostel 0 1 24
                addHostel 40 1 24
                addPilgrim 0 0
                addPilgrim 1 0
                evening
                text a0,b0
                forge 0 = 3
                text a0,b0
                forge 1 = 3
                pilgrim 0 7 = 1
                pilgrim 1 7 = 1
                stamp 0 1 2 = 0
                stamp 0 2 2 = 1
                stamp 1 1 2 = 1
                stamp 1 2 2 = 0
                """);
        Script.run("(also if the day has not come yet)", """
                addHostel 0 1 24
                addPilgrim 0 0
                text a0,a1,a999
                forge 0 = 3
                pilgrim 0 7 = 3
                evening
                pilgrim 0 7 = 2             # a0 has come true
                stamp 0 0 2 = 0
                stamp 0 1 2 = 1
                stamp 0 2 2 = 1
                """);
        Script.run("(also if the day has not come yet): an evening that was undone", """
                addHostel 0 1 24
                addHostel 40 1 24
                addPilgrim 0 0
                addPilgrim 1 0
                text a0
                forge 0 = 1
                text b0
                forge 1 = 1
                evening
                pilgrim 0 7 = 0
                pilgrim 1 7 = 0
                undo
                pilgrim 0 7 = 1
                pilgrim 1 7 = 1
                evening
                blot 0 0
                blot 1 0
                undo
                undo
                undo
                stamp 0 0 2 = 1
                stamp 1 0 2 = 1
                """);
        Script.run("no false stamp in an empty pass", THREE + "pilgrim 0 7 = 0\n");
    }

    private static void passes() {
        Script.run("lose: it is empty then", THREE + """
                lose 0 = 0
                evening
                evening
                lose 0 = 2
                pilgrim 0 5 = 0
                lose 0 = 0
                stamp 0 0 0 = IOOBE
                """);
        Script.run("To rebuild a pass: no day has passed", THREE + """
                text a0
                forge 0 = 1
                rebuild 0 = 0
                pilgrim 0 5 = 0
                """);
        Script.run("it has, for each day, in their order, a stamp of that hostel and this day", THREE + """
                evening
                walk 0 1
                evening
                walk 0 0
                evening
                text c9,a1
                forge 0 = 5
                rebuild 0 = 3
                stamp 0 0 0 = 0
                stamp 0 0 1 = 0
                stamp 0 1 0 = 1
                stamp 0 1 1 = 1
                stamp 0 2 0 = 0
                stamp 0 2 1 = 2
                stamp 0 3 0 = IOOBE
                """);
        Script.run("on which the pilgrim is entered on a page that is not blotted", THREE + """
                evening
                walk 0 1
                evening
                addPilgrim 1 0
                evening
                blot 1 1
                rebuild 0 = 2
                stamp 0 1 1 = 2
                blot 0 0
                rebuild 0 = 1
                blot 1 2
                rebuild 0 = 0
                rebuild 1 = 0
                """);
        Script.run("rebuild: a day on which the pilgrim slept outside", """
                addHostel 0 1 24
                addHostel 10 1 8
                addPilgrim 0 0
                walk 0 1 = 9
                evening
                evening
                rebuild 0 = 1
                stamp 0 0 0 = 1
                stamp 0 0 1 = 1
                """);
        Script.run("stamp: its place in the pass, from 0", THREE + """
                stamp 0 0 0 = IOOBE         # no stamp
                stamp 0 -1 0 = IOOBE
                text c999
                forge 0 = 1
                stamp 0 0 0 = 2
                stamp 0 0 1 = 999
                stamp 0 0 2 = 1
                stamp 0 1 0 = IOOBE
                stamp 0 -1 0 = IOOBE
                stamp 0 -2147483648 0 = IOOBE
                stamp 0 2147483647 0 = IOOBE
                stamp 0 0 3 = IAE
                stamp 0 0 -1 = IAE
                """);
    }

    private static void alike() {
        Script.run("alike: nothing in the pass, nothing in the books", THREE + "alike 0 = 0");
        Script.run("alike: nothing in the pass", THREE + "evening\nlose 0\nalike 0 = 0");
        Script.run("alike: nothing in the books", THREE + "text a0\nforge 0\nalike 0 = 0");
        Script.run("alike: all", THREE + "evening\nevening\nalike 0 = 2");
        Script.run("alike: more in the pass", THREE + "evening\nevening\ntext a2\nforge 0\nalike 0 = 2");
        Script.run("alike: more in the books", THREE + "evening\nevening\nlose 0\ntext a0\nforge 0\nalike 0 = 1");
        Script.run("how many stamps from the first one on are the same", THREE + """
                evening
                evening
                evening
                lose 0
                text b0,a1,a2
                forge 0
                alike 0 = 0                 # the first one is another one
                lose 0
                text a0,b1,a2
                forge 0
                alike 0 = 1                 # what comes behind the second one does not count
                lose 0
                text a0,a1,a3
                forge 0
                alike 0 = 2
                lose 0
                text a0,a2
                forge 0
                alike 0 = 1
                blot 0 1
                alike 0 = 2
                """);
    }

    private static void readings() {
        String two = "addHostel 0 1 24\naddHostel 12 1 24\naddPilgrim 0 0\n";
        Script.run("readings: from, a day, 0 up to the number of the day less 1", two + """
                readings 0 0 0 = IAE        # no day has passed
                evening
                readings 0 1 1 = IAE
                readings 0 -1 0 = IAE
                readings 0 -2147483648 0 = IAE
                readings 0 2147483647 0 = IAE
                readings 0 0 0 = 1
                evening
                readings 0 2 2 = IAE
                readings 0 1 1 = 1
                """);
        Script.run("readings: to, from up to the number of the day less 1", two + """
                3 times: evening
                readings 0 1 0 = IAE
                readings 0 1 3 = IAE
                readings 0 1 -1 = IAE
                readings 0 1 -2147483648 = IAE
                readings 0 1 2147483647 = IAE
                readings 0 2147483647 2147483647 = IAE
                readings 0 1 1 = 1
                readings 0 1 2 = 1
                readings 0 0 2 = 1
                """);
        Script.run("at most from + 29", two + """
                32 times: evening
                readings 0 0 29 = 1
                readings 0 0 30 = IAE
                readings 0 1 30 = 1
                readings 0 1 31 = IAE
                readings 0 2 31 = 1
                readings 0 31 31 = 1
                readings 0 3 32 = IAE
                """);
        StringBuilder blots = new StringBuilder(two + "21 times: evening\n");
        for (int day = 0; day < 20; day++) {
            blots.append("blot 0 ").append(day).append("\nblot 1 ").append(day).append('\n');
        }
        Script.run("or 1000000 if it is greater", blots + """
                readings 0 0 18 = 524288
                readings 0 0 19 = 1000000
                readings 0 0 20 = 1000000
                """);
        tenRowsADay();
        Script.run("the page of the hostel for that day is blotted, or the pilgrim is entered on it", two + """
                addPilgrim 0 0
                evening
                addPilgrim 1 0
                readings 0 0 0 = 1
                readings 2 0 0 = 0          # came later: entered nowhere, and nothing is blotted
                blot 0 0
                readings 2 0 0 = 1
                readings 0 0 0 = 1
                blot 1 0
                readings 2 0 0 = 2
                readings 0 0 0 = 2
                """);
        Script.run("if the pilgrim is entered on a page for a day that is not blotted, the hostel is that one", two + """
                addPilgrim 1 0
                evening
                blot 1 0
                readings 0 0 0 = 1          # hostel 0
                readings 1 0 0 = 1          # hostel 1, by the blot
                blot 0 0
                readings 0 0 0 = 2
                """);
        for (int longest = 11; longest <= 12; longest++) {
            Script.run("the distance of the hostels of two days that follow one another is at most setting 0", two + """
                    evening
                    evening
                    blot 0 0
                    blot 1 0
                    """ + "set 0 " + longest + "\nreadings 0 0 1 = " + (longest - 10) + "\nreadings 0 0 0 = 2");
        }
    }

    /** 10 hostels near one another make 10 rows a day: six days make a million. */
    private static void tenRowsADay() {
        StringBuilder lines = new StringBuilder();
        for (int i = 0; i < 10; i++) {
            lines.append("addHostel ").append(i).append(" 1 24\n");
        }
        lines.append("addPilgrim 0 0\n8 times: evening\n");
        for (int day = 0; day < 6; day++) {
            for (int i = 0; i < (day < 5 ? 10 : 9); i++) {
                lines.append("blot ").append(i).append(' ').append(day).append('\n');
            }
        }
        Script.run("or 1000000 if it is greater: less, as many, more", lines + """
                readings 0 0 4 = 100000
                readings 0 0 5 = 900000
                readings 0 0 6 = 900000
                blot 9 5
                readings 0 0 5 = 1000000
                readings 0 0 6 = 1000000
                blot 0 6
                blot 9 6
                readings 0 0 6 = 1000000
                """);
    }

    public static void main(String[] arguments) {
        pages();
        proofs();
        falseStamps();
        passes();
        alike();
        readings();
        Script.end();
    }
}
