import java.math.BigInteger;
import java.util.ArrayList;
import java.util.List;

/** The edges that the promises 16, 17, 20, 22 to 24, 27 and 28 name: what there is, and what would be. */
final class AnswerEdgesTest {
    private AnswerEdgesTest() {
    }

    private static void properties() {
        Script.run("hostel: pilgrims who are there now, inside or outside; of these, inside", """
                addHostel 0 1 24
                addHostel 10 1 8
                hostel 0 5 = 0
                hostel 0 6 = 0
                8 times: addPilgrim 0 0
                hostel 0 5 = 8
                hostel 0 6 = 8
                walk 0 1 = 9
                hostel 0 5 = 7
                hostel 1 5 = 1
                hostel 1 6 = 0
                evening
                hostel 1 6 = 1
                """);
        Script.run("hostel: entered in its book so far (each of them for each day), on pages that are not blotted", """
                addHostel 0 1 24
                addHostel 10 1 8
                hostel 0 7 = 0
                addPilgrim 0 0
                addPilgrim 0 0
                hostel 0 7 = 0
                evening
                hostel 0 7 = 2
                evening
                hostel 0 7 = 4
                lose 0
                hostel 0 7 = 4
                blot 0 0
                hostel 0 7 = 2
                blot 0 1
                hostel 0 7 = 0
                hostel 1 7 = 0
                """);
        Script.run("pilgrim: the hour on this day (0 for one who neither walked nor rode)", """
                addHostel 0 1 24
                addHostel 1 1 24
                addPilgrim 0 100
                pilgrim 0 4 = 0
                walk 0 1 = 8
                pilgrim 0 4 = 8
                evening
                pilgrim 0 4 = 0
                ride 0 0
                pilgrim 0 4 = 12
                evening
                pilgrim 0 4 = 0
                """);
        Script.run("pilgrim: kilometres walked so far; beds so far", """
                addHostel 0 1 24
                addHostel 1 0 24
                addPilgrim 0 100
                pilgrim 0 8 = 0
                pilgrim 0 9 = 0
                walk 0 1
                pilgrim 0 8 = 1
                evening
                pilgrim 0 9 = 0
                ride 0 0
                pilgrim 0 8 = 1
                evening
                pilgrim 0 9 = 1
                walk 0 1
                pilgrim 0 8 = 2
                undo
                pilgrim 0 8 = 1
                """);
        Script.run("pilgrim: money, 0 to 1000", """
                addHostel 0 8 24
                addHostel 300 8 24
                addPilgrim 0 1000
                addPilgrim 0 0
                pilgrim 0 2 = 1000
                pilgrim 1 2 = 0
                set 6 50
                20 times: ride 0 1
                pilgrim 0 2 = 950           # once a day
                """);
        Script.run("count: beds that were given, and what was paid for rides so far, through the days", """
                addHostel 0 1 24
                addHostel 1 1 24
                addPilgrim 0 100
                addPilgrim 1 9
                7 times: evening
                count 7 = 14
                count 6 = 0
                ride 0 1 = 55
                count 10 = 10
                evening = 1                 # for pilgrim 1, who has no money
                count 10 = 10
                count 7 = 15
                count 3 = 0
                count 4 = 44
                count 5 = 55
                count 8 = 16
                lose 0
                count 8 = 8
                """);
    }

    private static void reasons() {
        String state = """
                addHostel 0 0 24
                addHostel 40 0 24
                addHostel 41 0 24
                addPilgrim 0 100
                set 4 0
                set 5 20
                """;
        Script.run("whyNot: 0 if the pilgrim can", state + "whyNot 0 1 = 0\nwalk 0 1 = 14\npilgrim 0 3 = 80");
        Script.run("whyNot: 1 the pilgrim walked or rode on this day, before all others", state + """
                set 0 60
                walk 0 2 = 14
                set 0 5
                whyNot 0 2 = 1              # also 2
                whyNot 0 0 = 1              # also 3
                set 0 60
                whyNot 0 0 = 1              # also 4
                undo
                undo
                undo
                ride 0 1
                whyNot 0 1 = 1
                whyNot 0 2 = 1
                """);
        Script.run("whyNot: 2 the pilgrim is at this hostel", state + "whyNot 0 0 = 2\nset 0 5\nwhyNot 0 0 = 2");
        Script.run("whyNot: 3 its distance is greater than setting 0, before 4", state + """
                whyNot 0 2 = 3
                walk 0 1
                evening
                whyNot 0 0 = 4              # 160
                set 0 39
                whyNot 0 0 = 3
                set 0 40
                whyNot 0 0 = 4
                whyNot 0 2 = 0              # 82
                """);
    }

    private static void bedPlaces() {
        Script.run("bedPlace: Returns the place, from 0", """
                addHostel 0 0 24
                addHostel 300 8 24
                addPilgrim 1 0
                bedPlace 0 = 0              # beds or none
                7 times: addPilgrim 0 0
                bedPlace 1 = 0
                bedPlace 7 = 6
                undo
                bedPlace 7 = IOOBE
                """);
        Script.run("bedPlace: NONE if the pilgrim is outside", """
                addHostel 0 0 24
                addHostel 10 8 8
                addPilgrim 0 0
                walk 0 1 = 9
                bedPlace 0 = -1
                evening
                bedPlace 0 = 0
                """);
    }

    private static void fewestDays() {
        Script.run("fewestDays: 0 if the pilgrim is there now, inside or outside", """
                addHostel 0 0 24
                addHostel 10 0 8
                addPilgrim 0 0
                fewestDays 0 0 0 = 0
                fewestDays 0 0 1 = -1
                walk 0 1 = 9
                pilgrim 0 1 = 0
                fewestDays 0 1 0 = 0
                fewestDays 0 1 1 = -1
                """);
        Script.run("behind the last one of them, inside or outside", """
                addHostel 0 0 24
                addHostel 10 0 8
                addPilgrim 0 0
                fewestDays 0 1 0 = 1
                fewestDays 0 1 1 = 1
                """);
        Script.run("also if the pilgrim walked or rode on it (then the pilgrim stays on it)", """
                addHostel 0 0 24
                addHostel 10 0 24
                addHostel 50 0 24
                addPilgrim 0 10
                fewestDays 0 2 0 = 2
                fewestDays 0 2 1 = 1
                walk 0 1 = 9
                fewestDays 0 0 0 = 2
                fewestDays 0 0 1 = 1
                fewestDays 0 2 0 = 2
                fewestDays 0 2 1 = 1
                undo
                ride 0 1 = 0
                fewestDays 0 2 0 = 2
                fewestDays 0 2 1 = 1
                """);
        Script.run("(with all rules of a walk): setting 0", """
                addHostel 0 0 24
                addHostel 40 0 24
                addHostel 81 0 24
                addPilgrim 0 0
                fewestDays 0 1 0 = 1
                fewestDays 0 2 0 = -1
                fewestDays 0 2 1 = -1
                set 0 41
                fewestDays 0 2 0 = 2
                set 0 39
                fewestDays 0 1 0 = -1
                """);
        Script.run("(with all rules of a walk): a weariness of 100", """
                addHostel 0 0 24
                addHostel 50 0 24
                addHostel 101 0 24
                addPilgrim 0 0
                set 0 60
                set 5 20
                fewestDays 0 1 0 = 1        # 100
                fewestDays 0 2 0 = -1       # 102 are too many
                """);
        Script.run("if in each evening one who is inside got a bed", """
                addHostel 0 0 24
                addHostel 10 0 24
                addHostel 50 0 24
                addPilgrim 0 0
                addPilgrim 1 0
                set 5 20
                set 3 0
                fewestDays 0 2 0 = 2        # 20 and 80
                set 5 19
                fewestDays 0 2 0 = 2
                set 5 20
                walk 1 0
                evening                     # the floor: from 20 to 10
                pilgrim 1 3 = 10
                fewestDays 1 2 0 = -1       # no bed gives rest
                set 3 5
                fewestDays 1 2 0 = 3        # 10 and 20, a bed, a day's stay and a bed: 20, and 80
                """);
        limit(30, 2, 17, 47, "30");
        limit(31, 2, 16, 50, "-1");
        rows();
        Script.run("and for 1 also if the pilgrim is there now", "addHostel 0 0 8\naddPilgrim 0 0\nfewestDays 0 0 1 = -1");
        Script.run("the lowest number of all such rows", """
                addHostel 60 0 24
                addHostel 20 0 24
                addHostel 30 0 24
                addHostel 40 0 24
                addHostel 0 0 24
                addHostel 300 0 24
                addPilgrim 4 0
                fewestDays 0 5 0 = -1
                fewestDays 0 0 0 = 2        # by 20, by 30 or by 40
                fewestDays 0 0 1 = 1
                set 0 35
                fewestDays 0 0 1 = 2        # 20 is too far from 60 now
                set 0 30
                fewestDays 0 0 1 = 2
                set 0 29
                fewestDays 0 0 0 = 3
                fewestDays 0 0 1 = 1
                """);
        StringBuilder ten = new StringBuilder();
        for (int i = 0; i < 10; i++) {
            ten.append("addHostel ").append(30 * i).append(" 0 24\n");
        }
        Script.run("fewestDays: 10 hostels", ten + """
                addPilgrim 0 0
                set 5 1
                set 0 30
                fewestDays 0 9 0 = 9
                fewestDays 0 9 1 = 1
                set 0 29
                fewestDays 0 9 0 = -1
                fewestDays 0 9 1 = -1
                set 0 60
                fewestDays 0 9 0 = 5
                fewestDays 0 9 1 = 1        # four ways of 60 and one of 30, which may be the first one
                """);
    }

    private static void rows() {
        Script.run("the lowest number of all such rows: 0", """
                addHostel 30 0 24
                addHostel 60 0 24
                addHostel 0 0 24
                addHostel 31 0 24
                addPilgrim 2 0
                fewestDays 0 1 0 = 2
                fewestDays 0 1 1 = 0
                fewestDays 0 0 1 = 0
                """);
        Script.run("or stays: at the hostel 0", """
                addHostel 47 0 24
                addHostel 0 0 24
                addHostel 94 0 24
                addPilgrim 1 0
                set 0 60
                set 5 17
                set 3 2
                fewestDays 0 2 0 = 30
                fewestDays 0 2 1 = 0
                """);
        // with 20 of weariness two walks of 60 each need a rest, between them or ahead of them
        String state = """
                addHostel 30 0 24
                addPilgrim 3 0
                set 5 20
                set 0 30
                set 3 30
                set 4 0
                """;
        Script.run("the hostel at which the pilgrim is for staying: the lowest number", """
                addHostel 40 0 24
                addHostel 70 0 24
                addHostel 100 0 24
                """ + state + """
                walk 0 0
                evening
                pilgrim 0 3 = 20
                fewestDays 0 2 0 = 3
                fewestDays 0 2 1 = 0
                """);
        Script.run("the hostel at which the pilgrim is for staying: not the lowest number", """
                addHostel 100 0 24
                addHostel 70 0 24
                addHostel 40 0 24
                """ + state + """
                walk 0 2
                evening
                pilgrim 0 3 = 20
                fewestDays 0 0 0 = 3
                fewestDays 0 0 1 = 1
                """);
        String[] between = {"addHostel 50 0 24\naddHostel 70 0 24\n", "addHostel 70 0 24\naddHostel 50 0 24\n"};
        for (String two : between) {
            Script.run("the least number of days: the less weary row", "addHostel 0 0 24\naddHostel 45 0 24\n" + two + """
                    addHostel 95 0 24
                    addHostel 140 0 24
                    addPilgrim 0 0
                    set 0 45
                    set 5 20
                    set 3 60
                    fewestDays 0 4 0 = 3        # with 30 of weariness by 50, with 10 by 70
                    fewestDays 0 5 0 = 4        # 10 and 90
                    fewestDays 0 5 1 = 1
                    """);
        }
        Script.run("one who is inside: not one who is outside on the present day", """
                addHostel 0 0 24
                addHostel 47 0 8
                addHostel 94 0 24
                addPilgrim 0 0
                set 0 60
                set 5 17
                set 3 58
                walk 0 1 = 15
                pilgrim 0 1 = 0
                fewestDays 0 2 0 = 4        # from 79 to 89; then two beds: 31, 0
                fewestDays 0 2 1 = 1
                """);
        for (int closing = 14; closing <= 15; closing++) {
            Script.run("one who is inside: at the closing hour " + closing, "addHostel 0 0 24\naddHostel 47 0 " + closing + "\n" + """
                    addHostel 94 0 24
                    addPilgrim 0 0
                    set 0 60
                    set 5 17
                    set 3 58
                    """ + "fewestDays 0 2 0 = " + (closing == 15 ? 2 : 4));
        }
    }

    /** Two ways of this length, with as many beds between them as make so many days. */
    private static void limit(int days, int rest, int byTen, int length, String due) {
        Script.run("NONE if it cannot be within 30 days: " + days, "addHostel 0 0 24\naddHostel " + length + " 0 24\naddHostel "
                + 2 * length + " 0 24\naddPilgrim 0 0\nset 0 60\nset 3 " + rest + "\nset 5 " + byTen
                + "\nfewestDays 0 2 0 = " + due + "\nfewestDays 0 2 1 = " + (due.equals("-1") ? "-1" : "1"));
    }

    private static void means() {
        Script.run("meanWeariness: 0.0 if there are none", "meanWeariness = 0.0\naddHostel 0 1 24\nmeanWeariness = 0.0");
        Script.run("meanWeariness: as a double, divided by their number", """
                addHostel 0 0 24
                addHostel 10 0 24
                addPilgrim 0 0
                meanWeariness = 0.0
                set 5 1
                walk 0 1
                meanWeariness = 1.0
                addPilgrim 0 0
                meanWeariness = 0.5
                addPilgrim 0 0
                meanWeariness = 0.3333333333333333
                5 times: addPilgrim 0 0
                meanWeariness = 0.125
                """);
        Script.run("meanWeariness: 100", """
                addHostel 0 0 24
                addHostel 50 0 24
                addPilgrim 0 0
                set 0 60
                set 5 20
                walk 0 1
                meanWeariness = 100.0
                """);
    }

    /** 31 * hash + v in numbers without an end, of which the last 64 bits stand at the end. */
    private static BigInteger hash(List<Long> values) {
        BigInteger hash = BigInteger.valueOf(2347);
        for (long value : values) {
            hash = hash.multiply(BigInteger.valueOf(31)).add(BigInteger.valueOf(value));
        }
        return hash;
    }

    private static List<Long> listOf(StampHostels way, int... codes) {
        List<Long> values = new ArrayList<>();
        for (int what = 0; what <= 11; what++) {
            values.add((long) way.count(what));
        }
        for (int i = 0; i <= 6; i++) {
            values.add((long) way.setting(i));
        }
        int day = way.count(2);
        for (int h = 0; h < way.count(0); h++) {
            for (int what = 0; what <= 7; what++) {
                values.add((long) way.hostel(h, what));
            }
            for (int i = Math.max(0, day - 7); i < day; i++) {
                values.add((long) way.page(h, i));
            }
        }
        for (int p = 0; p < way.count(1); p++) {
            addPilgrim(values, way, p);
        }
        values.add(Double.doubleToLongBits(way.meanWeariness()));
        values.add((long) codes.length);
        for (int code : codes) {
            values.add((long) code);
        }
        return values;
    }

    private static void addPilgrim(List<Long> values, StampHostels way, int p) {
        for (int what = 0; what <= 9; what++) {
            values.add((long) way.pilgrim(p, what));
        }
        values.add((long) way.bedPlace(p));
        values.add((long) way.alike(p));
        for (int h = 0; h < way.count(0); h++) {
            values.add((long) way.whyNot(p, h));
            values.add((long) way.fewestDays(p, h, 0));
            values.add((long) way.fewestDays(p, h, 1));
        }
        int stamps = way.pilgrim(p, 5);
        for (int i = Math.max(0, stamps - 7); i < stamps; i++) {
            for (int what = 0; what <= 2; what++) {
                values.add((long) way.stamp(p, i, what));
            }
        }
    }

    /** One pilgrim of this weariness, 1 or a multiple of 10, and others of none. */
    private static StampHostels wearyCrowd(int weary, int others) {
        StampHostels way = new StampHostels();
        way.addHostel(0, 0, 24);
        way.addHostel(50, 0, 24);
        way.addHostel(10, 0, 24);
        way.set(0, 60);
        way.addPilgrim(0, 0);
        for (int i = 0; i < others; i++) {
            way.addPilgrim(1, 0);
        }
        if (weary == 1) {
            way.set(5, 1);
            way.walk(0, 2);
        } else if (weary > 0) {
            way.set(5, weary / 5);
            way.walk(0, 1);
        }
        return way;
    }

    private static void digests(String title, StampHostels way, int... codes) {
        BigInteger whole = hash(listOf(way, codes));
        Script.due(title + ": digest", way.digest(), whole.longValue());
        Script.due(title + ": a second digest", way.digest(), whole.longValue());
        Script.due(title + ": the hash overflows", whole.bitLength() > 63, true);
    }

    private static StampHostels crowd(int hostels, int pilgrims) {
        StampHostels way = new StampHostels();
        for (int i = 0; i < hostels; i++) {
            way.addHostel(30 * i, i % 3, 8 + i);
        }
        for (int i = 0; i < pilgrims; i++) {
            way.addPilgrim(i % hostels, 10 * i);
        }
        return way;
    }

    private static void digests() {
        digests("no hostel, no pilgrim", new StampHostels());
        digests("a hostel", crowd(1, 0));
        digests("a hostel and a pilgrim", crowd(1, 1));
        digests("10 hostels and 8 pilgrims", crowd(10, 8));
        for (int weary : new int[] {0, 1, 10, 20, 30, 40, 50, 60, 70, 80, 90, 100}) {
            for (int others = 0; others <= 7; others++) {
                digests("a mean of " + weary + " / " + (others + 1), wearyCrowd(weary, others));
            }
        }
        StampHostels buffer = new StampHostels();
        int[] codes = new int[60];
        for (int i = 0; i < 60; i++) {
            codes[i] = 126 - i;
            buffer.append(codes[i]);
        }
        digests("a buffer of 60 characters", buffer, codes);
        StampHostels days = crowd(10, 8);
        for (int day = 0; day < 16; day++) {
            for (int i = 0; i < 8; i++) {
                int to = (i + day + 1) % 10;
                if (days.whyNot(i, to) == 0) {
                    days.walk(i, to);
                }
            }
            digests("walks of the day " + day, days);
            days.evening();
            digests("the pages and stamps of the last 7 days: " + (day + 1), days);
        }
        days.blot(3, 15);
        days.blot(3, 8);
        digests("a blotted page", days);
        days.lose(0);
        digests("a lost pass", days);
        for (int i = 0; i < 6; i++) {
            days.undo();
            digests("undo " + i, days);
        }
    }

    private static boolean isNegative(long hash) {
        return hash < 0;
    }

    /** Both signs come: nothing is cut off. */
    private static void signs() {
        boolean negative = false;
        boolean positive = false;
        StampHostels way = new StampHostels();
        for (int i = 0; i < 30; i++) {
            way.append(97 + i % 26);
            negative |= isNegative(way.digest());
            positive |= !isNegative(way.digest());
        }
        Script.due("digests below 0", negative, true);
        Script.due("digests from 0 on", positive, true);
    }

    public static void main(String[] arguments) {
        properties();
        reasons();
        bedPlaces();
        fewestDays();
        means();
        digests();
        signs();
        Script.end();
    }
}
