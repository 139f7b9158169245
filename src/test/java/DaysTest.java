/** Promises 5 to 7, 22, 23 and 27: walks, rides, evenings, reasons, the order for beds, the mean weariness. */
final class DaysTest {
    private DaysTest() {
    }

    private static void walks() {
        Script.run("walk", """
                addHostel 0 8 24
                addHostel 30 8 12
                addHostel 5 8 24
                addHostel 70 8 24
                addPilgrim 0 100
                set 3 0                 # a bed gives no rest here
                walk 1 1 = IOOBE
                walk 0 4 = IOOBE
                walk -1 0 = IOOBE
                walk 0 -1 = IOOBE
                walk 0 0 = ISE
                walk 0 3 = ISE
                walk 0 1 = 12           # 30 km at 6 km an hour from 7 on
                pilgrim 0 0 = 1
                pilgrim 0 1 = 1         # the closing hour itself is not too late
                pilgrim 0 3 = 24
                pilgrim 0 4 = 12
                pilgrim 0 8 = 30
                walk 0 2 = ISE
                evening = 1
                pilgrim 0 4 = 0
                whyNot 0 3 = 0          # 40 km are not too far
                walk 0 0 = 13           # weariness 24: 5 km an hour
                pilgrim 0 3 = 48
                evening
                walk 0 1 = 15           # weariness 48: 4 km an hour, 7.5 hours are 8
                pilgrim 0 1 = 0
                pilgrim 0 3 = 72
                hostel 1 5 = 1
                hostel 1 6 = 0
                evening = 0             # outside: 10 more
                pilgrim 0 3 = 82
                pilgrim 0 1 = 1
                whyNot 0 0 = 4
                walk 0 0 = ISE
                pilgrim 0 3 = 82
                pilgrim 0 8 = 90
                """);
        Script.run("a walk up to a weariness of 100", """
                addHostel 0 8 24
                addHostel 50 8 24
                addHostel 49 8 24
                addHostel 51 8 24
                addPilgrim 0 0
                set 0 60
                set 5 20
                set 3 10
                whyNot 0 3 = 4          # 102
                whyNot 0 1 = 0          # 100
                walk 0 1 = 16
                pilgrim 0 3 = 100
                evening
                pilgrim 0 3 = 90
                set 5 1
                walk 0 0 = 32           # 50 km at 2 km an hour; the hours of a way go on beyond 24
                pilgrim 0 3 = 95
                pilgrim 0 1 = 0
                evening
                pilgrim 0 3 = 100       # at most 100
                set 0 60
                walk 0 2 = ISE
                evening
                pilgrim 0 3 = 90
                """);
        Script.run("a walk at a weariness of 100", """
                addHostel 0 8 8
                addHostel 10 8 8
                addHostel 15 8 24
                addPilgrim 0 0
                set 5 20
                set 2 12
                set 3 0
                set 4 0
                walk 0 1 = 14
                evening
                walk 0 0 = 14
                evening
                walk 0 1 = 16           # weariness 60: 3 km an hour
                evening
                walk 0 2 = 15           # weariness 90: 2 km an hour
                pilgrim 0 3 = 100
                evening
                set 5 1
                whyNot 0 1 = 0          # 5 * 1 / 10 is 0
                walk 0 1 = 17           # 5 km at 1 km an hour
                pilgrim 0 3 = 100
                """);
    }

    private static void reasons() {
        Script.run("whyNot", """
                addHostel 0 1 24
                addHostel 40 1 24
                addHostel 81 1 24
                addPilgrim 0 100
                whyNot 1 0 = IOOBE
                whyNot 0 3 = IOOBE
                whyNot -1 0 = IOOBE
                whyNot 0 -1 = IOOBE
                whyNot 0 0 = 2
                whyNot 0 1 = 0
                whyNot 0 2 = 3
                set 0 39
                whyNot 0 1 = 3
                set 0 40
                ride 0 1 = 90
                whyNot 0 0 = 1
                whyNot 0 1 = 1
                whyNot 0 2 = 1
                evening
                whyNot 0 0 = 0
                set 5 20
                whyNot 0 0 = 0          # 80
                walk 0 0
                set 3 0
                evening
                whyNot 0 1 = 4
                set 0 5
                whyNot 0 1 = 3          # the first one that applies
                whyNot 0 0 = 2
                count 11 = 6
                """);
    }

    private static void rides() {
        Script.run("ride", """
                addHostel 0 1 24
                addHostel 300 1 12
                addHostel 100 1 11
                addPilgrim 0 30
                ride 1 0 = IOOBE
                ride 0 3 = IOOBE
                ride 0 -1 = IOOBE
                ride 0 0 = ISE
                ride 0 1 = 20
                pilgrim 0 0 = 1
                pilgrim 0 1 = 1         # comes at 12, which is not too late
                pilgrim 0 3 = 0
                pilgrim 0 4 = 12
                pilgrim 0 8 = 0
                count 10 = 10
                ride 0 0 = ISE          # rode on this day
                evening = 1
                pilgrim 0 2 = 15
                ride 0 2 = 5
                pilgrim 0 1 = 0         # 12 is too late
                evening = 0
                pilgrim 0 3 = 10
                pilgrim 0 2 = 5
                ride 0 0 = ISE          # 5 is less than the price
                count 10 = 20
                set 6 5
                ride 0 0 = 0            # as much as the price
                count 10 = 25
                evening = 1             # gives what there is: nothing
                count 3 = 5
                set 6 0
                ride 0 1 = 0
                """);
        Script.run("no ride behind a walk", """
                addHostel 0 1 24
                addHostel 10 1 24
                addPilgrim 0 30
                walk 0 1 = 9
                ride 0 0 = ISE
                """);
    }

    private static void beds() {
        Script.run("the order for beds", """
                addHostel 0 2 24
                addHostel 12 8 24
                addHostel 24 8 8
                addPilgrim 0 100        # 0 stays
                addPilgrim 1 100        # 1 walks 12
                addPilgrim 1 3          # 2 walks 12
                addPilgrim 1 100        # 3 rides
                addPilgrim 0 100        # 4 walks to the third, too late
                set 4 3
                walk 1 0 = 9
                walk 2 0 = 9
                ride 3 0 = 90
                walk 4 2 = 11
                bedPlace 1 = 0          # 9 of weariness, the lowest number
                bedPlace 2 = 1
                bedPlace 0 = 2          # no weariness, hour 0
                bedPlace 3 = 3          # no weariness, hour 12
                bedPlace 4 = -1
                bedPlace 5 = IOOBE
                bedPlace -1 = IOOBE
                meanWeariness = 7.4     # 0 + 9 + 9 + 0 + 19 of 5
                evening = 2
                pilgrim 0 3 = 0
                pilgrim 1 3 = 0
                pilgrim 4 3 = 29
                pilgrim 1 2 = 95
                pilgrim 2 2 = 0         # at most the own money
                pilgrim 0 2 = 100       # the floor costs nothing
                pilgrim 1 9 = 1
                pilgrim 0 9 = 0
                count 3 = 8
                count 6 = 2
                count 7 = 2
                hostel 0 4 = 2
                pilgrim 4 5 = 0         # no stamp outside
                pilgrim 0 5 = 1         # a stamp also for the floor
                page 0 0 = 15
                page 2 0 = 0
                hostel 0 7 = 4
                bedPlace 4 = 0
                meanWeariness = 5.8
                """);
        Script.run("an earlier hour comes first", """
                addHostel 0 1 24
                addHostel 20 8 24
                addHostel 21 8 24
                addPilgrim 2 100
                addPilgrim 1 100
                set 5 1
                walk 0 0 = 11           # 21 km: weariness 2, 4 hours
                walk 1 0 = 11           # 20 km: weariness 2, 4 hours
                bedPlace 0 = 0
                bedPlace 1 = 1
                undo
                set 2 6
                walk 1 0 = 10
                bedPlace 0 = 1
                bedPlace 1 = 0
                set 4 1
                set 3 2
                evening = 1
                pilgrim 0 3 = 1         # the floor
                pilgrim 1 3 = 0         # the bed
                """);
        Script.run("the weariest one first, whatever the hour", """
                addHostel 0 1 24
                addHostel 10 8 24
                addPilgrim 0 100
                addPilgrim 1 100
                walk 1 0 = 9
                bedPlace 1 = 0
                bedPlace 0 = 1
                """);
    }

    private static void pool() {
        Script.run("the pool, like remainders", """
                addHostel 0 8 24
                addHostel 50 8 24
                addHostel 99 8 24
                addPilgrim 0 7
                addPilgrim 1 5
                addPilgrim 2 5
                6 times: evening
                count 2 = 6
                count 3 = 17
                count 4 = 0
                count 6 = 18
                hostel 0 4 = 6
                evening = 3
                count 3 = 0
                count 6 = 0
                hostel 0 3 = 6          # 17 * 7 / 21 is 5, and 14 is left
                hostel 1 3 = 6
                hostel 2 3 = 5
                hostel 0 4 = 0
                count 4 = 17
                count 5 = 0
                count 7 = 21
                7 times: evening        # nothing to share then
                count 4 = 17
                count 6 = 0
                """);
        Script.run("the pool, the greatest remainder first", """
                addHostel 0 8 24
                addHostel 50 8 24
                addHostel 99 8 24
                addPilgrim 0 5
                addPilgrim 0 0
                addPilgrim 1 0
                7 times: evening
                hostel 0 3 = 3          # 5 * 14 / 21 is 3, 7 is left
                hostel 1 3 = 2          # 5 * 7 / 21 is 1, 14 is left
                hostel 2 3 = 0
                """);
        StringBuilder ten = new StringBuilder();
        for (int i = 0; i < 10; i++) {
            ten.append("addHostel ").append(30 * i).append(" 8 24\n");
        }
        Script.run("the pool of ten hostels", ten + """
                addPilgrim 9 7
                addPilgrim 8 5
                addPilgrim 0 5
                7 times: evening
                hostel 0 3 = 6          # 17 * 7 / 21 is 5, and 14 is left
                hostel 8 3 = 6
                hostel 9 3 = 5
                hostel 1 3 = 0
                """);
        Script.run("the pool of one night", """
                addHostel 0 1 24
                addHostel 12 0 24
                addPilgrim 0 100
                evening = 1
                walk 0 1 = 9
                6 times: evening
                hostel 0 3 = 5
                hostel 1 3 = 0
                count 3 = 0
                count 6 = 0
                """);
        Script.run("the pool of more weeks", """
                addHostel 0 1 24
                addHostel 10 0 24
                addPilgrim 0 100
                5 times: evening
                walk 0 1 = 9
                2 times: evening
                hostel 0 3 = 25
                pilgrim 0 9 = 5
                7 times: evening        # no nights on these days
                hostel 0 3 = 25
                hostel 1 3 = 0
                count 2 = 14
                """);
    }

    private static void lastDay() {
        Script.run("evening on the last day", """
                addHostel 0 1 24
                addPilgrim 0 0
                998 times: evening
                evening = 1
                count 2 = 999
                evening = ISE
                pilgrim 0 5 = 999
                page 0 998 = 1
                page 0 999 = IAE
                count 11 = 6
                """);
        Script.run("an evening without anything", """
                evening = 0
                count 2 = 1
                count 11 = 1
                """);
    }

    public static void main(String[] arguments) {
        walks();
        reasons();
        rides();
        beds();
        pool();
        lastDay();
        Script.end();
    }
}
