/** Promises 11 to 14: the buffer, its first error, and stamps that are forged from it. */
final class TextsTest {
    private TextsTest() {
    }

    private static void appending() {
        Script.run("append and clearBuffer", """
                append 32 = IAE
                append 127 = IAE
                append -1 = IAE
                append 33 = 1
                append 126 = 2
                append 97 = 3
                clearBuffer = 3
                clearBuffer = 0
                59 times: append 48
                append 44 = 60
                append 44 = ISE
                append 127 = IAE        # the exception that is named first
                clearBuffer = 60
                append 44 = 1
                count 11 = 0
                """);
    }

    private static void errors() {
        String[][] cases = {
            {"a0", "2"}, {"j999", "4"}, {"a", "1"}, {"a0,", "3"}, {"k0", "0"}, {"A0", "0"}, {"`0", "0"}, {"0", "0"},
            {",", "0"}, {"aa", "1"}, {"a,", "1"}, {"a00", "2"}, {"a01", "2"}, {"a1000", "4"}, {"a999,b", "6"},
            {"a1b", "2"}, {"a12b", "3"}, {"a123b", "4"}, {"a0b", "2"}, {"a0,,", "3"}, {"a0,1", "3"}, {"a-1", "1"},
            {"a1;b2", "2"}, {"a1,k2", "3"}, {"a10,j109", "8"}, {"a/", "1"}, {"a:", "1"}, {"i5,j5,a5,b5,c5,d5", "17"},
            {"a100,b200,c300,d400,e500,f600,g700,h800,i900,j100,a200,b300", "59"},
            {"a100,b200,c300,d400,e500,f600,g700,h800,i900,j100,a200,b300,", "60"},
            {"a100,b200,c300,d400,e500,f600,g700,h800,i900,j100,a200,b3001", "59"},
        };
        for (String[] one : cases) {
            Script.run("text " + one[0], "text " + one[0] + "\nfirstError = " + one[1]);
        }
    }

    private static void forging() {
        Script.run("forge", """
                addHostel 0 1 24
                addHostel 30 1 24
                addPilgrim 0 5
                evening
                forge 0 = IAE           # empty
                forge 1 = IOOBE
                forge -1 = IOOBE
                text a10,
                forge 0 = IAE
                forge 1 = IOOBE
                clearBuffer = 4
                text b
                forge 0 = IAE
                clearBuffer = 1
                text a00
                forge 0 = IAE
                clearBuffer = 3
                text c1
                forge 0 = ISE           # no such hostel
                clearBuffer = 2         # nothing has changed
                text a1,c1
                forge 0 = ISE
                clearBuffer = 5
                text c1,
                forge 0 = IAE
                clearBuffer = 3
                pilgrim 0 5 = 1
                count 11 = 4
                text b999,a0,b10,a105
                forge 0 = 5
                clearBuffer = 0
                count 11 = 5
                stamp 0 0 0 = 0
                stamp 0 0 1 = 0
                stamp 0 1 0 = 1
                stamp 0 1 1 = 999
                stamp 0 2 0 = 0
                stamp 0 2 1 = 0
                stamp 0 3 0 = 1
                stamp 0 3 1 = 10
                stamp 0 4 0 = 0
                stamp 0 4 1 = 105
                text a0
                undo = 4
                pilgrim 0 5 = 1
                firstError = 2          # the buffer is not restored
                """);
    }

    private static void manyStamps() {
        StringBuilder lines = new StringBuilder("addHostel 0 1 24\naddPilgrim 0 0\naddPilgrim 0 0\nevening\n");
        for (int i = 0; i < 59; i++) {
            lines.append("text ").append("a0,".repeat(19)).append("a0\nforge 0 = ").append(20 * i + 21).append('\n');
        }
        Script.run("1200 stamps", lines + """
                text a1,a2,a3,a4,a5,a6,a7,a8,a9,a1,a2,a3,a4,a5,a6,a7,a8,a9
                forge 0 = 1199
                text a1,a2
                forge 0 = ISE
                clearBuffer = 5
                text a1
                forge 0 = 1200
                text a1
                forge 0 = ISE
                forge 1 = 2
                stamp 0 1199 1 = 1
                evening = 1
                pilgrim 0 5 = 1201      # evenings go on
                evening
                stamp 0 1201 1 = 2
                text a1
                forge 0 = ISE
                lose 0 = 1202
                forge 0 = 1
                undo
                undo
                pilgrim 0 5 = 1202
                """);
    }

    public static void main(String[] arguments) {
        appending();
        errors();
        forging();
        manyStamps();
        Script.end();
    }
}
