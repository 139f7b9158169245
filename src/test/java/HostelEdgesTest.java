/** The edges that "Hostels", "Pilgrims" and "Settings" name among the terms; each title is the sentence. */
final class HostelEdgesTest {
    private HostelEdgesTest() {
    }

    private static void hostels() {
        StringBuilder ten = new StringBuilder();
        StringBuilder places = new StringBuilder();
        for (int i = 0; i < 10; i++) {
            ten.append("addHostel ").append(90 - 10 * i).append(" 1 20 = ").append(i).append('\n');
            places.append("hostel ").append(i).append(" 0 = ").append(90 - 10 * i).append('\n');
        }
        Script.run("There are at most 10 hostels", ten + """
                count 0 = 10
                addHostel 200 1 20 = ISE
                count 0 = 10
                hostel 10 0 = IOOBE
                undo = 5
                count 0 = 9
                addHostel 200 1 20 = 9
                hostel 9 0 = 200
                """);
        Script.run("numbered from 0 in the order in which they came", ten.toString() + places);
        Script.run("A hostel has a place, 0 to 300", """
                addHostel -1 1 20 = IAE
                addHostel 301 1 20 = IAE
                addHostel -2147483648 1 20 = IAE
                addHostel 2147483647 1 20 = IAE
                addHostel 0 1 20 = 0
                addHostel 300 1 20 = 1
                hostel 0 0 = 0
                hostel 1 0 = 300
                """);
        Script.run("no two have the same one", """
                addHostel 0 1 20 = 0
                addHostel 0 1 20 = ISE
                addHostel 1 1 20 = 1
                addHostel 300 1 20 = 2
                addHostel 300 2 21 = ISE
                addHostel 0 2 21 = ISE
                addHostel 1 2 21 = ISE
                undo = 2
                addHostel 300 2 21 = 2      # the place is free again
                """);
        Script.run("beds, 0 to 8", """
                addHostel 0 -1 20 = IAE
                addHostel 0 9 20 = IAE
                addHostel 0 -2147483648 20 = IAE
                addHostel 0 2147483647 20 = IAE
                addHostel 0 0 20 = 0
                addHostel 1 8 20 = 1
                hostel 0 1 = 0
                hostel 1 1 = 8
                """);
        Script.run("a closing hour, 8 to 24", """
                addHostel 0 1 7 = IAE
                addHostel 0 1 25 = IAE
                addHostel 0 1 -2147483648 = IAE
                addHostel 0 1 2147483647 = IAE
                addHostel 0 1 8 = 0
                addHostel 1 1 24 = 1
                hostel 0 2 = 8
                hostel 1 2 = 24
                """);
        Script.run("money, at first 0, and nights, at first 0", """
                addHostel 0 1 20
                addPilgrim 0 100
                6 times: evening
                addHostel 50 1 20 = 1
                hostel 1 3 = 0
                hostel 1 4 = 0
                ride 0 1 = 60
                evening = 1
                hostel 1 3 = 5              # 35 * 1 / 7
                undo
                hostel 1 3 = 0
                set 6 0
                evening
                evening
                hostel 1 4 = 1
                undo
                undo
                undo
                undo
                undo = 1                    # the hostel has not come
                addHostel 50 1 20 = 1
                hostel 1 3 = 0
                hostel 1 4 = 0
                """);
        Script.run("The distance of two hostels is that of their places.", """
                addHostel 100 1 20
                addHostel 105 1 20
                addHostel 95 1 20
                addHostel 106 1 20
                addHostel 94 1 20
                addPilgrim 0 0
                set 0 5
                whyNot 0 1 = 0
                whyNot 0 2 = 0              # the same, up or down the way
                whyNot 0 3 = 3
                whyNot 0 4 = 3
                walk 0 2
                pilgrim 0 8 = 5
                evening
                walk 0 0
                evening
                walk 0 1
                pilgrim 0 8 = 15
                """);
    }

    private static void pilgrims() {
        StringBuilder eight = new StringBuilder("addHostel 0 1 20\naddHostel 10 1 20\n");
        for (int i = 0; i < 8; i++) {
            eight.append("addPilgrim ").append(i % 2).append(' ').append(i).append(" = ").append(i).append('\n');
        }
        Script.run("There are at most 8 pilgrims, numbered from 0.", eight + """
                count 1 = 8
                addPilgrim 0 0 = ISE
                count 1 = 8
                pilgrim 7 2 = 7
                pilgrim 0 2 = 0
                pilgrim 8 2 = IOOBE
                undo
                count 1 = 7
                pilgrim 7 2 = IOOBE
                addPilgrim 0 9 = 7
                pilgrim 7 2 = 9
                """);
        Script.run("a pass: a row of stamps, each with a hostel and a day, in the order in which they came", """
                addHostel 0 1 20
                addHostel 10 1 20
                addPilgrim 0 0
                text b9,a0,a0
                forge 0 = 3
                evening
                stamp 0 0 0 = 1
                stamp 0 0 1 = 9
                stamp 0 1 1 = 0
                stamp 0 2 1 = 0
                stamp 0 3 0 = 0
                stamp 0 3 1 = 0
                stamp 0 4 0 = IOOBE
                """);
        Script.run("A pilgrim can walk once a day", """
                addHostel 0 1 20
                addHostel 10 1 20
                addPilgrim 0 0
                addPilgrim 0 0
                walk 0 1 = 9
                walk 0 0 = ISE
                walk 1 1 = 9                # another one still can
                evening
                walk 0 0 = 9
                walk 0 1 = ISE
                """);
        Script.run("to another one", """
                addHostel 0 1 20
                addPilgrim 0 0
                walk 0 0 = ISE
                whyNot 0 0 = 2
                """);
        Script.run("whose distance is at most setting 0", """
                addHostel 100 1 24
                addHostel 60 1 24
                addHostel 59 1 24
                addHostel 105 1 24
                addHostel 106 1 24
                addHostel 160 1 24
                addHostel 161 1 24
                addPilgrim 0 0
                set 5 1
                walk 0 2 = ISE              # 41
                walk 0 1 = 14               # 40
                undo
                set 0 5
                walk 0 4 = ISE              # 6
                walk 0 3 = 8                # 5
                undo
                set 0 60
                walk 0 6 = ISE              # 61
                walk 0 5 = 17               # 60
                """);
    }

    /** A pilgrim of this weariness, inside the hostel 0; the hostels from 1 on are so far from it. No night gives rest. */
    private static String weary(int weariness, int... distances) {
        StringBuilder lines = new StringBuilder("addHostel 0 0 24\n");
        for (int one : distances) {
            lines.append("addHostel ").append(one).append(" 0 24\n");
        }
        int far = distances.length + 1;
        lines.append("addHostel 250 0 24\naddHostel 260 0 24\n");
        lines.append("set 0 60\nset 4 0\nset 6 0\naddPilgrim ").append(far).append(" 0\n");
        int at = far;
        for (int left = weariness; left > 0; left -= 20) {
            at = 2 * far + 1 - at;
            lines.append("set 5 ").append(Math.min(left, 20)).append("\nwalk 0 ").append(at).append("\nevening\n");
        }
        return lines + "ride 0 0 = 0\nevening = 0\npilgrim 0 3 = " + weariness + "\nset 5 1\n";
    }

    private static void speeds() {
        int[][] hours = {{0, 10}, {19, 10}, {20, 12}, {39, 12}, {40, 15}, {59, 15}, {60, 20}, {79, 20}, {80, 30}, {94, 30}};
        for (int[] one : hours) {
            Script.run("The speed is 6 - weariness / 20 kilometres an hour: 60 km with " + one[0],
                    weary(one[0], 60) + "walk 0 1 = " + (7 + one[1]));
        }
        Script.run("The speed is 6 - weariness / 20 kilometres an hour: 9 km with 99", weary(99, 9) + "walk 0 1 = 12");
        Script.run("The speed is 6 - weariness / 20 kilometres an hour: 9 km with 100", weary(100, 9) + "walk 0 1 = 16");
        Script.run("by the weariness ahead of the walk", weary(19, 12, 13) + """
                set 5 10
                walk 0 1 = 9                # 31 behind it; at 5 km an hour it would be 10
                pilgrim 0 3 = 31
                """);
        Script.run("the distance divided by the speed, rounded up", weary(0, 1, 5, 6, 7, 12, 13) + """
                walk 0 1 = 8
                undo
                walk 0 2 = 8
                undo
                walk 0 3 = 8
                undo
                walk 0 4 = 9
                undo
                walk 0 5 = 9
                undo
                walk 0 6 = 10
                """);
        Script.run("the distance divided by the speed, rounded up: 4 km an hour", weary(40, 1, 4, 5, 8, 9) + """
                walk 0 1 = 8
                undo
                walk 0 2 = 8
                undo
                walk 0 3 = 9
                undo
                walk 0 4 = 9
                undo
                walk 0 5 = 10
                """);
        Script.run("it begins at the hour that setting 2 tells", weary(0, 6) + """
                set 2 4
                walk 0 1 = 5
                undo
                set 2 12
                walk 0 1 = 13
                pilgrim 0 4 = 13
                """);
    }

    private static void wearinessOfWalks() {
        Script.run("The weariness becomes greater by distance * setting 5 / 10", weary(0, 1, 9, 10, 19, 40) + """
                walk 0 2
                pilgrim 0 3 = 0             # 9 * 1 / 10, rounded down
                undo
                walk 0 3
                pilgrim 0 3 = 1
                undo
                walk 0 4
                pilgrim 0 3 = 1
                undo
                set 5 20
                walk 0 1
                pilgrim 0 3 = 2
                undo
                walk 0 5
                pilgrim 0 3 = 80
                undo
                set 5 8
                walk 0 4
                pilgrim 0 3 = 15            # 15.2
                """);
        Script.run("if it would be above 100 by that, the walk is not possible", weary(0, 50, 51) + """
                set 5 20
                whyNot 0 2 = 4
                walk 0 2 = ISE              # 102
                whyNot 0 1 = 0
                walk 0 1 = 16
                pilgrim 0 3 = 100
                """);
        Script.run("if it would be above 100 by that: 101", weary(1, 50, 49) + """
                set 5 20
                whyNot 0 1 = 4
                walk 0 1 = ISE              # 1 and 100
                walk 0 2 = 16
                pilgrim 0 3 = 99
                """);
        Script.run("if it would be above 100 by that: a weariness of 100", weary(100, 9, 10) + """
                whyNot 0 2 = 4
                walk 0 2 = ISE
                whyNot 0 1 = 0
                walk 0 1 = 16               # 9 km make nobody wearier
                pilgrim 0 3 = 100
                """);
        Script.run("weariness, 0 to 100", weary(100, 9) + """
                set 2 12
                walk 0 1 = 21
                evening
                pilgrim 0 3 = 100
                set 4 60
                evening
                pilgrim 0 3 = 40
                evening
                pilgrim 0 3 = 0
                evening
                pilgrim 0 3 = 0
                """);
    }

    private static void doors() {
        Script.run("If the hour is at most the closing hour of the hostel, the pilgrim is inside then", """
                addHostel 0 0 24
                addHostel 30 0 12
                addHostel 31 0 12
                addHostel 29 0 11
                addPilgrim 0 0
                walk 0 1 = 12
                pilgrim 0 1 = 1
                hostel 1 5 = 1
                hostel 1 6 = 1
                undo
                walk 0 2 = 13
                pilgrim 0 1 = 0
                hostel 2 5 = 1
                hostel 2 6 = 0
                undo
                walk 0 3 = 12
                pilgrim 0 1 = 0
                """);
        Script.run("the closing hour 8", """
                addHostel 0 0 8
                addHostel 6 0 8
                addHostel 7 0 8
                addPilgrim 0 0
                walk 0 1 = 8
                pilgrim 0 1 = 1
                undo
                walk 0 2 = 9
                pilgrim 0 1 = 0
                undo
                set 2 4
                walk 0 1 = 5
                pilgrim 0 1 = 1
                """);
        Script.run("the closing hour 24", weary(60, 51, 52, 60) + """
                walk 0 1 = 24
                pilgrim 0 1 = 1
                undo
                walk 0 2 = 25
                pilgrim 0 1 = 0
                undo
                walk 0 3 = 27
                pilgrim 0 1 = 0
                pilgrim 0 4 = 27
                """);
    }

    private static void rides() {
        Script.run("A pilgrim can ride once a day instead", """
                addHostel 0 0 24
                addHostel 10 0 24
                addPilgrim 0 100
                addPilgrim 0 100
                ride 0 1 = 90
                ride 0 0 = ISE
                walk 0 0 = ISE
                walk 1 1 = 9
                ride 1 0 = ISE
                evening
                ride 0 0 = 80
                ride 1 0 = 90
                """);
        Script.run("to any other hostel", """
                addHostel 0 0 24
                addHostel 300 0 24
                addPilgrim 0 100
                ride 0 0 = ISE
                set 0 5
                whyNot 0 1 = 3
                ride 0 1 = 90
                """);
        Script.run("for setting 6", """
                addHostel 0 0 24
                addHostel 10 0 24
                addPilgrim 0 49
                addPilgrim 0 50
                addPilgrim 0 51
                addPilgrim 0 0
                set 6 50
                ride 0 1 = ISE              # 1 less than the price
                ride 1 1 = 0                # the price
                ride 2 1 = 1
                count 10 = 100
                ride 3 1 = ISE
                set 6 0
                ride 3 1 = 0
                count 10 = 100
                """);
        Script.run("a ride makes nobody weary", weary(100, 120) + """
                set 5 20
                ride 0 1 = 0
                pilgrim 0 3 = 100
                pilgrim 0 8 = 50            # and is no way that is walked
                """);
        Script.run("its hour is 12, whatever the distance", """
                addHostel 0 0 24
                addHostel 1 0 24
                addHostel 300 0 24
                addPilgrim 0 100
                addPilgrim 0 100
                set 2 4
                ride 0 1
                pilgrim 0 4 = 12
                ride 1 2
                pilgrim 1 4 = 12
                """);
        Script.run("the closing hour holds as for a walk", """
                addHostel 0 0 24
                addHostel 1 0 12
                addHostel 2 0 11
                addHostel 3 0 8
                addPilgrim 0 100
                addPilgrim 0 100
                addPilgrim 0 100
                ride 0 1
                pilgrim 0 1 = 1
                ride 1 2
                pilgrim 1 1 = 0
                ride 2 3
                pilgrim 2 1 = 0
                """);
    }

    private static void settings() {
        String[] sentences = {"the longest way of a day, 5 to 60, at first 40", "the donation, 0 to 20, at first 5",
            "the hour in which one sets out, 4 to 12, at first 7", "the rest by a bed, 0 to 60, at first 40",
            "the rest by the floor, 0 to 60, at first 10", "the weariness by 10 kilometres, 1 to 20, at first 8",
            "the price of a ride, 0 to 50, at first 10"};
        for (int i = 0; i < sentences.length; i++) {
            String[] numbers = sentences[i].replaceAll("^.*, (\\d+) to (\\d+), at first (\\d+)$", "$1 $2 $3").split(" ");
            int least = Integer.parseInt(numbers[0]);
            int greatest = Integer.parseInt(numbers[1]);
            String set = "set " + i + " ";
            Script.run(sentences[i], "setting " + i + " = " + numbers[2] + "\n"
                    + set + (least - 1) + " = IAE\n" + set + (greatest + 1) + " = IAE\n"
                    + set + Integer.MIN_VALUE + " = IAE\n" + set + Integer.MAX_VALUE + " = IAE\n"
                    + set + least + " = " + numbers[2] + "\n" + "setting " + i + " = " + least + "\n"
                    + set + greatest + " = " + least + "\n" + "setting " + i + " = " + greatest + "\n");
        }
    }

    public static void main(String[] arguments) {
        hostels();
        pilgrims();
        speeds();
        wearinessOfWalks();
        doors();
        rides();
        settings();
        Script.end();
    }
}
