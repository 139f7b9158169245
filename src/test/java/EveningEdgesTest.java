/** The edges that "An evening" names among the terms; each title is the sentence. */
final class EveningEdgesTest {
    private EveningEdgesTest() {
    }

    private static void outside() {
        Script.run("There is a number of the day, at first 0.", """
                count 2 = 0
                evening
                count 2 = 1
                """);
        Script.run("A pilgrim who is outside sleeps there: the weariness becomes greater by 10", """
                addHostel 0 8 24
                addHostel 50 8 8
                addPilgrim 0 100
                ride 0 1 = 90
                evening = 0
                pilgrim 0 3 = 10
                pilgrim 0 2 = 90            # gives nothing
                pilgrim 0 0 = 1
                """);
        int[][] mornings = {{89, 99}, {90, 100}, {91, 100}, {100, 100}};
        for (int[] one : mornings) {
            Script.run("but at most 100: from " + one[0], weary(one[0]) + """
                    set 5 1
                    walk 0 0
                    pilgrim 0 1 = 0
                    evening = 0
                    """ + "pilgrim 0 3 = " + one[1]);
        }
    }

    /** A pilgrim of this weariness, from 20 on, inside the hostel 1, whose beds are none; the hostel 0 is 1 km away. */
    private static String weary(int weariness) {
        StringBuilder lines = new StringBuilder("addHostel 100 8 8\naddHostel 101 0 24\naddHostel 111 0 24\n");
        lines.append("set 4 0\nset 2 9\naddPilgrim 1 100\n");
        int at = 1;
        for (int left = weariness; left > 0; left -= 20) {
            at = 3 - at;
            lines.append("set 5 ").append(Math.min(left, 20)).append("\nwalk 0 ").append(at).append("\nevening = 0\n");
        }
        if (at == 2) {
            lines.append("set 6 0\nride 0 1\nevening = 0\n");
        }
        return lines + "pilgrim 0 3 = " + weariness + "\npilgrim 0 0 = 1\n";
    }

    private static void order() {
        Script.run("the weariest one first", """
                addHostel 0 1 24
                addHostel 10 0 24
                addHostel 20 0 24
                addPilgrim 0 0              # 0, by hour 0
                addPilgrim 1 0              # 8, by hour 9
                addPilgrim 2 0              # 16, by hour 11
                walk 1 0 = 9
                walk 2 0 = 11
                bedPlace 2 = 0
                bedPlace 1 = 1
                bedPlace 0 = 2
                evening = 1
                pilgrim 2 9 = 1
                """);
        Script.run("of several the one whose hour on this day is the earliest", """
                addHostel 100 1 24
                addHostel 112 0 24
                addHostel 87 0 24
                addPilgrim 2 0
                addPilgrim 1 0
                set 5 1
                walk 0 0 = 10               # 13 km: 1 of weariness
                walk 1 0 = 9                # 12 km: 1
                bedPlace 1 = 0
                bedPlace 0 = 1
                evening = 1
                pilgrim 1 9 = 1
                """);
        Script.run("(it is 0 for those who neither walked nor rode on this day)", """
                addHostel 0 1 24
                addHostel 5 0 24
                addPilgrim 1 100
                addPilgrim 1 100
                addPilgrim 0 100
                set 5 1
                ride 0 0
                walk 1 0 = 8
                bedPlace 2 = 0
                bedPlace 1 = 1
                bedPlace 0 = 2
                pilgrim 2 4 = 0
                evening = 1
                pilgrim 2 9 = 1
                bedPlace 0 = 0              # all hours are 0 again
                bedPlace 1 = 1
                bedPlace 2 = 2
                """);
        Script.run("of several the lowest number", """
                addHostel 0 2 24
                addHostel 5 0 24
                addPilgrim 1 100
                addPilgrim 0 100
                addPilgrim 0 100
                addPilgrim 0 100
                bedPlace 1 = 0
                bedPlace 2 = 1
                bedPlace 3 = 2
                bedPlace 0 = 0              # alone at the other hostel
                evening = 2
                pilgrim 0 9 = 0
                pilgrim 1 9 = 1
                pilgrim 2 9 = 1
                pilgrim 3 9 = 0
                """);
        Script.run("all who are inside are put in order", """
                addHostel 0 1 8
                addHostel 60 0 24
                addPilgrim 1 100
                addPilgrim 0 100
                set 0 60
                walk 0 0 = 17               # the weariest one, but outside
                bedPlace 0 = -1
                bedPlace 1 = 0
                evening = 1
                pilgrim 1 9 = 1
                """);
    }

    private static void beds() {
        String two = "addPilgrim 0 100\naddPilgrim 0 100\n";
        Script.run("As many of them as there are beds get a bed: none", "addHostel 0 0 24\n" + two + """
                evening = 0
                count 7 = 0
                count 3 = 0
                pilgrim 0 5 = 1
                """);
        Script.run("As many of them as there are beds get a bed: one less", "addHostel 0 1 24\n" + two + "evening = 1");
        Script.run("As many of them as there are beds get a bed: all", "addHostel 0 2 24\n" + two + "evening = 2");
        Script.run("As many of them as there are beds get a bed: one left", "addHostel 0 3 24\n" + two + """
                evening = 2
                hostel 0 4 = 2
                count 7 = 2
                """);
        Script.run("As many of them as there are beds get a bed: 8", "addHostel 0 8 24\n" + two + two + two + two + """
                bedPlace 7 = 7
                evening = 8
                page 0 0 = 255
                hostel 0 7 = 8
                """);
        Script.run("As many of them as there are beds get a bed: 7 of 8", "addHostel 0 7 24\n" + two + two + two + two + """
                evening = 7
                pilgrim 7 9 = 0
                pilgrim 6 9 = 1
                page 0 0 = 255
                """);
    }

    private static void rests() {
        int[][] rests = {{19, 1}, {20, 0}, {21, 0}, {0, 20}, {60, 0}};
        for (int[] one : rests) {
            String before = "addHostel 0 1 24\naddHostel 10 1 24\naddPilgrim 0 0\nset 5 20\n";
            String set = "set 3 " + one[0] + "\nset 4 17\nwalk 0 1\nevening = 1\npilgrim 0 3 = " + one[1];
            Script.run("becomes less by setting 3 (but at least 0): 20 less " + one[0], before + set);
            before = "addHostel 0 0 24\naddHostel 10 0 24\naddPilgrim 0 0\nset 5 20\n";
            set = "set 4 " + one[0] + "\nset 3 17\nwalk 0 1\nevening = 0\npilgrim 0 3 = " + one[1];
            Script.run("becomes less by setting 4 (but at least 0): 20 less " + one[0], before + set);
        }
        Script.run("(but at least 0): nobody who is not weary", """
                addHostel 0 1 24
                addPilgrim 0 0
                addPilgrim 0 0
                evening = 1
                pilgrim 0 3 = 0
                pilgrim 1 3 = 0
                """);
    }

    private static void donations() {
        String five = """
                addHostel 0 8 24
                addPilgrim 0 4
                addPilgrim 0 5
                addPilgrim 0 6
                addPilgrim 0 0
                addPilgrim 0 1000
                """;
        Script.run("the pilgrim gives setting 1, but at most the own money, to the pool", five + """
                evening = 5
                pilgrim 0 2 = 0
                pilgrim 1 2 = 0
                pilgrim 2 2 = 1
                pilgrim 3 2 = 0
                pilgrim 4 2 = 995
                count 3 = 19
                evening = 5
                count 3 = 25
                count 5 = 990
                """);
        Script.run("the pilgrim gives setting 1: 0", five + """
                set 1 0
                evening = 5
                count 3 = 0
                count 5 = 1015
                hostel 0 4 = 5
                """);
        Script.run("the pilgrim gives setting 1: 20", five + """
                set 1 20
                evening = 5
                count 3 = 35
                pilgrim 4 2 = 980
                """);
        Script.run("and the nights of the hostel become 1 more", """
                addHostel 0 1 24
                addHostel 9 1 24
                addPilgrim 0 0
                addPilgrim 0 0
                evening = 1
                hostel 0 4 = 1
                hostel 1 4 = 0
                evening = 1
                hostel 0 4 = 2
                count 6 = 2
                """);
        Script.run("The others sleep on the floor", """
                addHostel 0 0 24
                addPilgrim 0 10
                evening = 0
                pilgrim 0 2 = 10            # costs nothing
                pilgrim 0 9 = 0
                hostel 0 4 = 0
                count 3 = 0
                stamp 0 0 0 = 0
                """);
        Script.run("All who are inside, by number, get a stamp and are entered in the book", """
                addHostel 0 1 24
                addHostel 10 1 8
                addHostel 20 0 24
                addPilgrim 0 0
                addPilgrim 0 0
                addPilgrim 0 0
                addPilgrim 2 0
                walk 1 1 = 9                # too late
                evening = 1
                page 0 0 = 5
                page 1 0 = 0
                page 2 0 = 8
                pilgrim 0 5 = 1
                pilgrim 1 5 = 0
                pilgrim 2 5 = 1
                pilgrim 3 5 = 1
                stamp 3 0 0 = 2
                stamp 3 0 1 = 0
                """);
    }

    private static void days() {
        Script.run("If it is a multiple of 7 then: not on the day 0", """
                addHostel 0 1 24
                addPilgrim 0 100
                evening
                count 3 = 5
                hostel 0 3 = 0
                """);
        Script.run("If it is a multiple of 7 then: 6, 7, 8, 13, 14, 15", """
                addHostel 0 1 24
                addPilgrim 0 100
                6 times: evening
                count 2 = 6
                count 3 = 30
                hostel 0 3 = 0
                hostel 0 4 = 6
                evening
                count 2 = 7
                count 3 = 0
                hostel 0 3 = 35
                hostel 0 4 = 0
                evening
                count 3 = 5
                5 times: evening
                count 2 = 13
                count 3 = 30
                hostel 0 3 = 35
                evening
                count 3 = 0
                hostel 0 3 = 70
                evening
                count 3 = 5
                hostel 0 3 = 70
                """);
        Script.run("and there are nights: none", """
                addHostel 0 0 24
                addPilgrim 0 100
                7 times: evening
                count 2 = 7
                count 3 = 0
                count 4 = 0
                count 6 = 0
                hostel 0 3 = 0
                """);
        Script.run("and there are nights: no hostel, no pilgrim", """
                7 times: evening
                count 2 = 7
                evening = 0
                """);
        Script.run("and there are nights: one", """
                addHostel 0 1 24
                addHostel 12 0 24
                addPilgrim 0 100
                evening = 1
                walk 0 1 = 9
                6 times: evening
                hostel 0 3 = 5
                count 3 = 0
                count 6 = 0
                """);
        Script.run("and there are nights: an empty pool", """
                addHostel 0 1 24
                addPilgrim 0 0
                6 times: evening
                count 6 = 6
                count 3 = 0
                evening
                count 6 = 0
                count 4 = 0
                hostel 0 4 = 0
                """);
    }

    /** 7 days with one pilgrim for each money, at the hostels 0, 1 and on; the beds of a hostel are nights / 7. */
    private static String week(int[] pilgrimsAt, int[] money) {
        StringBuilder lines = new StringBuilder("addHostel 0 8 24\naddHostel 100 8 24\naddHostel 200 8 24\naddHostel 300 8 24\n");
        lines.append("set 1 20\n");
        for (int i = 0; i < pilgrimsAt.length; i++) {
            lines.append("addPilgrim ").append(pilgrimsAt[i]).append(' ').append(money[i]).append('\n');
        }
        return lines + "7 times: evening\n";
    }

    private static void sharing() {
        Script.run("each gets pool * nights / all nights: nothing is left", week(new int[] {0, 1, 1}, new int[] {1, 1, 1}) + """
                hostel 0 3 = 1
                hostel 1 3 = 2
                hostel 2 3 = 0
                count 3 = 0
                """);
        Script.run("what is left is given out in units of 1: 1 is left", week(new int[] {0, 1, 1}, new int[] {1, 0, 0}) + """
                hostel 0 3 = 0              # 7 of 21 is left
                hostel 1 3 = 1              # 14 of 21
                """);
        Script.run("at most one to each", week(new int[] {0, 1, 2}, new int[] {2, 0, 0}) + """
                hostel 0 3 = 1
                hostel 1 3 = 1
                hostel 2 3 = 0
                """);
        Script.run("at most one to each: all but one", week(new int[] {3, 2, 1, 0}, new int[] {3, 0, 0, 0}) + """
                hostel 0 3 = 1
                hostel 1 3 = 1
                hostel 2 3 = 1
                hostel 3 3 = 0
                """);
        Script.run("the greatest one first", week(new int[] {0, 3, 3, 1, 1, 1}, new int[] {5, 0, 0, 0, 0, 0}) + """
                hostel 0 3 = 1              # 5 * 7 / 42: 0, and 35 is left
                hostel 3 3 = 2              # 5 * 14 / 42: 1, and 28 is left
                hostel 1 3 = 2              # 5 * 21 / 42: 2, and 21 is left
                hostel 2 3 = 0
                """);
        Script.run("the greatest one first: the last one", week(new int[] {0, 1, 3, 3}, new int[] {1, 0, 0, 0}) + """
                hostel 0 3 = 0
                hostel 1 3 = 0
                hostel 3 3 = 1              # 14 of 28
                """);
        Script.run("of like ones the lowest number first", week(new int[] {3, 2}, new int[] {1, 0}) + """
                hostel 0 3 = 0              # no nights, and nothing is left of its division
                hostel 1 3 = 0
                hostel 2 3 = 1
                hostel 3 3 = 0
                """);
        Script.run("then the pool is empty, and all nights are 0", week(new int[] {0, 1}, new int[] {100, 1000}) + """
                count 3 = 0
                count 6 = 0
                hostel 0 4 = 0
                hostel 1 4 = 0
                hostel 0 3 = 120            # 240 * 7 / 14
                hostel 1 3 = 120
                count 4 = 240
                """);
        Script.run("by their nights: the most that there may be", week(new int[] {0, 0, 0, 0, 0, 0, 0, 0},
                new int[] {1000, 1000, 1000, 1000, 1000, 1000, 1000, 1000}) + """
                hostel 0 3 = 1120
                count 5 = 6880
                """);
        Script.run("All pilgrims are inside, and none has walked or ridden on the new day.", """
                addHostel 0 0 24
                addHostel 10 0 8
                addPilgrim 0 100
                addPilgrim 0 100
                walk 0 1 = 9
                ride 1 1 = 90
                hostel 1 5 = 2
                hostel 1 6 = 0
                evening
                pilgrim 0 1 = 1
                pilgrim 1 1 = 1
                pilgrim 0 4 = 0
                pilgrim 1 4 = 0
                hostel 1 6 = 2
                whyNot 0 0 = 0
                ride 1 0 = 80
                """);
    }

    public static void main(String[] arguments) {
        outside();
        order();
        beds();
        rests();
        donations();
        days();
        sharing();
        Script.end();
    }
}
