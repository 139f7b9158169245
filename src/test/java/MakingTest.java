/** Promises 1 to 4 and 21, and the numbers that promises 16, 17 and 20 tell of what was made. */
final class MakingTest {
    private MakingTest() {
    }

    private static void newObject() {
        StringBuilder lines = new StringBuilder();
        int[] atFirst = {40, 5, 7, 40, 10, 8, 10};
        for (int i = 0; i < 12; i++) {
            lines.append("count ").append(i).append(" = 0\n");
        }
        for (int i = 0; i < 7; i++) {
            lines.append("setting ").append(i).append(" = ").append(atFirst[i]).append('\n');
        }
        Script.run("a new object", lines + """
                hostel 0 0 = IOOBE
                pilgrim 0 0 = IOOBE
                firstError = 0
                clearBuffer = 0
                meanWeariness = 0.0
                undo = ISE
                """);
    }

    private static void hostels() {
        Script.run("addHostel", """
                addHostel -1 0 8 = IAE
                addHostel 301 0 8 = IAE
                addHostel 0 -1 8 = IAE
                addHostel 0 9 8 = IAE
                addHostel 0 0 7 = IAE
                addHostel 0 0 25 = IAE
                count 0 = 0
                count 11 = 0
                addHostel 0 0 8 = 0
                addHostel 300 8 24 = 1
                addHostel 300 1 9 = ISE
                addHostel 300 1 25 = IAE          # the exception that is named first
                hostel 0 0 = 0
                hostel 0 1 = 0
                hostel 0 2 = 8
                hostel 1 0 = 300
                hostel 1 1 = 8
                hostel 1 2 = 24
                hostel 1 3 = 0
                hostel 1 4 = 0
                hostel 1 5 = 0
                hostel 1 6 = 0
                hostel 1 7 = 0
                hostel 1 8 = IAE
                hostel 1 -1 = IAE
                hostel 2 0 = IOOBE
                hostel -1 0 = IOOBE
                hostel 2 8 = IOOBE
                count 11 = 2
                """);
        StringBuilder ten = new StringBuilder();
        for (int i = 0; i < 10; i++) {
            ten.append("addHostel ").append(300 - 3 * i).append(" 1 20 = ").append(i).append('\n');
        }
        Script.run("ten hostels", ten + """
                addHostel 1 1 20 = ISE
                addHostel 301 1 20 = IAE
                count 0 = 10
                hostel 9 0 = 273
                undo = 5
                addHostel 1 4 21 = 9
                hostel 9 0 = 1
                hostel 9 1 = 4
                """);
    }

    private static void pilgrims() {
        Script.run("addPilgrim", """
                addPilgrim 0 0 = IOOBE
                addHostel 10 1 20
                addHostel 20 1 20
                addPilgrim 2 0 = IOOBE
                addPilgrim -1 0 = IOOBE
                addPilgrim 2 1001 = IOOBE
                addPilgrim 0 -1 = IAE
                addPilgrim 0 1001 = IAE
                count 1 = 0
                count 11 = 2
                addPilgrim 1 1000 = 0
                addPilgrim 0 0 = 1
                pilgrim 0 0 = 1
                pilgrim 0 1 = 1
                pilgrim 0 2 = 1000
                pilgrim 0 3 = 0
                pilgrim 0 4 = 0
                pilgrim 0 5 = 0
                pilgrim 0 6 = 0
                pilgrim 0 7 = 0
                pilgrim 0 8 = 0
                pilgrim 0 9 = 0
                pilgrim 0 10 = IAE
                pilgrim 0 -1 = IAE
                pilgrim 2 0 = IOOBE
                pilgrim -1 0 = IOOBE
                pilgrim 2 10 = IOOBE
                pilgrim 1 0 = 0
                count 5 = 1000
                count 11 = 4
                6 times: addPilgrim 0 1
                count 1 = 8
                count 5 = 1006
                addPilgrim 0 1 = ISE
                addPilgrim 0 1001 = IAE
                addPilgrim 2 1 = IOOBE
                """);
        Script.run("a pilgrim in the place of one who was undone", """
                addHostel 10 0 20
                addHostel 20 0 20
                addPilgrim 0 50
                walk 0 1 = 9
                evening
                pilgrim 0 5 = 1
                undo
                undo
                undo
                addPilgrim 1 7 = 0
                pilgrim 0 0 = 1
                pilgrim 0 2 = 7
                pilgrim 0 3 = 0
                pilgrim 0 4 = 0
                pilgrim 0 5 = 0
                pilgrim 0 8 = 0
                """);
    }

    private static void settings() {
        int[][] ranges = {{5, 60, 40}, {0, 20, 5}, {4, 12, 7}, {0, 60, 40}, {0, 60, 10}, {1, 20, 8}, {0, 50, 10}};
        StringBuilder lines = new StringBuilder();
        for (int i = 0; i < 7; i++) {
            String set = "set " + i + " ";
            lines.append(set).append(ranges[i][0] - 1).append(" = IAE\n");
            lines.append(set).append(ranges[i][1] + 1).append(" = IAE\n");
            lines.append("setting ").append(i).append(" = ").append(ranges[i][2]).append('\n');
            lines.append(set).append(ranges[i][0]).append(" = ").append(ranges[i][2]).append('\n');
            lines.append("setting ").append(i).append(" = ").append(ranges[i][0]).append('\n');
            lines.append(set).append(ranges[i][1]).append(" = ").append(ranges[i][0]).append('\n');
            lines.append("setting ").append(i).append(" = ").append(ranges[i][1]).append('\n');
        }
        Script.run("set", lines + """
                set 7 5 = IOOBE
                set -1 5 = IOOBE
                set 7 -1000 = IOOBE
                setting 7 = IOOBE
                setting -1 = IOOBE
                count 11 = 6
                """);
    }

    public static void main(String[] arguments) {
        newObject();
        hostels();
        pilgrims();
        settings();
        Script.end();
    }
}
