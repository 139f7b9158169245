/** The edges that "Input text" and "Undo" name among the terms, and the promises 11 to 15. */
final class TextEdgesTest {
    private static final String WAY = "addHostel 0 1 24\naddHostel 30 1 24\naddPilgrim 0 50\n";

    private TextEdgesTest() {
    }

    private static void buffer() {
        Script.run("The buffer has at most 60 characters.", """
                59 times: append 97
                append 98 = 60
                append 99 = ISE
                append 44 = ISE
                clearBuffer = 60
                append 99 = 1
                """);
        Script.run("append: the character code, 33 to 126", """
                append 32 = IAE
                append 127 = IAE
                append 0 = IAE
                append -1 = IAE
                append -2147483648 = IAE
                append 2147483647 = IAE
                append 65633 = IAE          # 65536 more than a letter
                append 33 = 1
                append 126 = 2
                """);
        Script.run("append: a wrong code and a full buffer", """
                60 times: append 97
                append 32 = IAE
                append 127 = IAE
                append 126 = ISE
                """);
        Script.run("clearBuffer: Returns the length that it had: none", "clearBuffer = 0\nclearBuffer = 0");
        Script.run("clearBuffer: Returns the length that it had: one", "append 97\nclearBuffer = 1\nclearBuffer = 0");
    }

    private static void good(String sentence, String text) {
        Script.run(sentence + ": " + text, "text " + text + "\nfirstError = " + text.length());
    }

    private static void wrong(String sentence, String text, int index) {
        Script.run(sentence + ": " + text, WAY + "text " + text + "\nfirstError = " + index + "\nforge 0 = IAE");
    }

    private static void errors() {
        Script.run("firstError of an empty buffer", "firstError = 0");
        String list = "A list of stamps is one or more stamps with \",\" between them";
        good(list, "a0");
        good(list, "a0,");
        good(list, "a0,a0");
        wrong(list, ",a0", 0);
        wrong(list, "a0,,a0", 3);
        wrong(list, "a0a0", 2);
        wrong(list, "a0;a0", 2);
        wrong(list, "a,a0", 1);
        String letter = "a stamp is a letter, \"a\" to \"j\"";
        good(letter, "a");
        good(letter, "j");
        good(letter, "a0,a");
        good(letter, "a0,j");
        wrong(letter, "`", 0);
        wrong(letter, "k", 0);
        wrong(letter, "A", 0);
        wrong(letter, "J", 0);
        wrong(letter, "aa0", 1);
        wrong(letter, "a0,k", 3);
        wrong(letter, "a0,0", 3);
        wrong(letter, "0", 0);
        String number = "the number of a day, 0 to 999";
        good(number, "a9");
        good(number, "a10");
        good(number, "a99");
        good(number, "a100");
        good(number, "a999");
        wrong(number, "a1000", 4);
        wrong(number, "a9999", 4);
        wrong(number, "a999,a1000", 9);
        wrong(number, "a-1", 1);
        wrong(number, "a/", 1);
        wrong(number, "a:", 1);
        wrong(number, "a1/", 2);
        wrong(number, "a1:", 2);
        wrong(number, "a12:", 3);
        wrong(number, "a123/", 4);
        String zeros = "without leading zeros";
        good(zeros, "a0");
        good(zeros, "a100");
        good(zeros, "a909");
        wrong(zeros, "a00", 2);
        wrong(zeros, "a01", 2);
        wrong(zeros, "a1,b00", 5);
        String first = "Finds the first syntax error of the buffer.";
        wrong(first, "a0,k0,k0", 3);
        wrong(first, "!", 0);
        wrong(first, "~", 0);
        String any = "if no list of stamps, of any length, begins with the characters before it and this character";
        String full = "a100,b200,c300,d400,e500,f600,g700,h800,i900,j100,a200,b300";
        good(any, full);
        good(any, full + ",");              // a list that begins so is longer than the buffer
        good(any, "a0,a0," + "a10,".repeat(13) + "a");
        wrong(any, full + "0", 59);
    }

    private static void forging() {
        Script.run("forge: Puts the stamps into the pass, in their order, behind those that it has, and clears the buffer", WAY + """
                evening
                text b9,a0
                forge 0 = 3
                clearBuffer = 0
                stamp 0 0 0 = 0
                stamp 0 1 0 = 1
                stamp 0 1 1 = 9
                stamp 0 2 0 = 0
                stamp 0 2 1 = 0
                forge 0 = IAE               # the buffer is empty now
                """);
        String[] incomplete = {"", "a", "a0,", "a0,b", "k0", "a00", "a1000", ",", "0"};
        for (String one : incomplete) {
            Script.run("forge: if the buffer is not a complete list of stamps: " + one,
                    WAY + (one.isEmpty() ? "" : "text " + one + "\n") + "forge 0 = IAE\nclearBuffer = " + one.length());
        }
        Script.run("forge: complete ones", WAY + """
                text a0
                forge 0 = 1
                text b9
                forge 0 = 2
                text a10
                forge 0 = 3
                text b99
                forge 0 = 4
                text a100
                forge 0 = 5
                text b999
                forge 0 = 6
                stamp 0 5 0 = 1
                stamp 0 5 1 = 999
                stamp 0 4 1 = 100
                stamp 0 3 1 = 99
                stamp 0 2 1 = 10
                stamp 0 1 1 = 9
                stamp 0 0 1 = 0
                """);
        Script.run("forge: if there is no such hostel", WAY + """
                text c0
                forge 0 = ISE
                clearBuffer = 2
                text a0,b0,c0,a0
                forge 0 = ISE
                clearBuffer = 11
                text j0
                forge 0 = ISE
                addHostel 60 1 24
                forge 0 = ISE
                clearBuffer = 2
                text c0
                forge 0 = 1
                """);
        StringBuilder ten = new StringBuilder();
        for (int i = 0; i < 10; i++) {
            ten.append("addHostel ").append(i).append(" 1 24\n");
        }
        Script.run("for the hostels 0 to 9", ten + """
                addPilgrim 0 0
                text a0,j1
                forge 0 = 2
                stamp 0 0 0 = 0
                stamp 0 1 0 = 9
                """);
        Script.run("forge: a buffer of 60 characters", WAY + """
                text a100,b200,a300,b400,a500,b600,a700,b800,a900,b10,a20,b30,a40
                append 48 = ISE
                firstError = 60
                forge 0 = 13
                stamp 0 12 0 = 0
                stamp 0 12 1 = 40
                clearBuffer = 0
                """);
    }

    private static void manyStamps() {
        StringBuilder lines = new StringBuilder(WAY);
        for (int i = 0; i < 59; i++) {
            lines.append("text ").append("a0,".repeat(19)).append("a0\nforge 0 = ").append(20 * i + 20).append('\n');
        }
        Script.run("or the pass would have more than 1200 stamps: by one", lines + "text " + "a0,".repeat(18) + """
                a0
                forge 0 = 1199
                text b1,b2
                forge 0 = ISE
                clearBuffer = 5
                text b1
                forge 0 = 1200
                text b2
                forge 0 = ISE
                """);
        Script.run("or the pass would have more than 1200 stamps: just as many", lines + "text " + "a0,".repeat(19) + """
                a1
                forge 0 = 1200
                stamp 0 1199 1 = 1
                text c0
                forge 0 = ISE               # both reasons
                append 44
                forge 0 = IAE
                """);
        Script.run("(evenings go on beyond that)", lines + "text " + "a0,".repeat(19) + """
                a1
                forge 0 = 1200
                evening = 1
                pilgrim 0 5 = 1201
                stamp 0 1200 1 = 0
                evening = 1
                pilgrim 0 5 = 1202
                text b2
                forge 0 = ISE
                rebuild 0 = 2
                forge 0 = 3
                """);
    }

    private static void undo() {
        Script.run("undo: Throws if there is none", """
                undo = ISE
                append 97
                undo = ISE                  # the buffer is no saved state
                addHostel 0 1 24
                undo = 0
                undo = ISE
                """);
        Script.run("At most 6 states are saved", """
                set 0 11
                set 0 12
                set 0 13
                set 0 14
                set 0 15
                count 11 = 5
                set 0 16
                count 11 = 6
                set 0 17
                count 11 = 6
                undo = 5
                """);
        Script.run("the oldest one is dropped first", """
                set 0 11
                set 0 12
                set 0 13
                set 0 14
                set 0 15
                set 0 16
                set 0 17
                undo = 5
                undo = 4
                undo = 3
                undo = 2
                undo = 1
                undo = 0
                setting 0 = 11
                undo = ISE
                setting 0 = 11
                """);
        Script.run("just 6 states", """
                set 0 11
                set 0 12
                set 0 13
                set 0 14
                set 0 15
                set 0 16
                6 times: undo
                setting 0 = 40
                undo = ISE
                """);
        Script.run("Restores the latest saved state, and drops it.", """
                set 0 11
                set 0 12
                undo = 1
                setting 0 = 11
                set 0 13
                undo = 1
                setting 0 = 11
                undo = 0
                setting 0 = 40
                """);
        Script.run("all but the buffer", WAY + """
                text a0
                set 0 11
                text ,b1
                undo = 3
                clearBuffer = 5
                text a0
                forge 0 = 1
                undo = 3
                clearBuffer = 0             # forge has cleared it
                """);
    }

    /** A state of many days in which no state is saved, so that undo drops none. */
    private static final String NOTHING_SAVED = """
            addHostel 0 1 24
            addHostel 30 2 12
            addHostel 40 0 8
            addPilgrim 0 1000
            addPilgrim 1 100
            addPilgrim 1 7
            evening
            ride 0 1
            evening
            blot 0 0
            evening
            evening
            text a9
            forge 2
            evening
            evening
            walk 1 2
            6 times: set 0 40
            6 times: undo
            """;

    private static void everything() {
        Script.run("saves the state from before it: all but the buffer and the saved states", NOTHING_SAVED + """
                count 11 = 0
                undone: addHostel 7 3 17
                undone: addPilgrim 2 11
                undone: set 0 41
                undone: set 1 6
                undone: set 2 8
                undone: set 3 41
                undone: set 4 11
                undone: set 5 9
                undone: set 6 11
                undone: walk 0 0
                undone: walk 0 2
                undone: ride 0 0
                undone: ride 0 2
                undone: evening             # the pool is shared
                undone: lose 0
                undone: lose 2
                undone: rebuild 0
                undone: rebuild 2
                undone: blot 1 1
                undone: blot 2 5
                append 33
                undone: evening
                evening = 2
                undone: evening
                undone: walk 1 1
                undone: ride 1 0
                set 0 45
                undone: evening
                walk 0 0 = 12
                undone: evening
                ride 2 2 = ISE
                walk 2 2 = 9
                undone: evening
                blot 1 6 = 2
                undone: evening
                count 11 = 5
                undone: lose 1
                """);
    }

    /** Calls that change nothing, of each method that is marked "undoable" and can change nothing, and others. */
    private static void eachUndoable() {
        String[] calls = {"set 0 40", "lose 0", "rebuild 0", "evening", "addHostel 5 1 20", "addPilgrim 0 0", "walk 0 1",
            "ride 0 1", "forge 0"};
        for (String call : calls) {
            Script.run("saves the state from before it (also if it changes nothing): " + call, WAY + "text a0\ncount 11 = 3\n"
                    + call + "\ncount 11 = 4\nundo = 3\npilgrim 0 0 = 0\npilgrim 0 2 = 50\npilgrim 0 5 = 0\n"
                    + "count 0 = 2\ncount 1 = 1\ncount 2 = 0\ncount 10 = 0\nundo = 2");
        }
        Script.run("saves the state from before it: blot", WAY + """
                evening
                count 11 = 4
                blot 1 0 = 0
                count 11 = 5
                undo = 4
                page 1 0 = 0
                """);
        String[] others = {"append 97", "clearBuffer", "firstError", "hostel 0 0", "pilgrim 0 0", "stamp 0 0 0", "page 0 0",
            "count 0", "setting 0", "whyNot 0 1", "bedPlace 0", "fewestDays 0 1 0", "readings 0 0 0", "alike 0",
            "meanWeariness", "digest"};
        for (String call : others) {
            Script.run("only what is marked \"undoable\" saves: " + call,
                    WAY + "evening\ncount 11 = 4\n" + call + "\ncount 11 = 4\nundo = 3\ncount 2 = 0");
        }
        String[] refused = {"addHostel 0 1 20 = ISE", "addPilgrim 2 0 = IOOBE", "set 0 4 = IAE", "walk 0 0 = ISE",
            "ride 0 0 = ISE", "lose 1 = IOOBE", "rebuild 1 = IOOBE", "blot 0 1 = IAE", "forge 0 = IAE"};
        for (String call : refused) {
            Script.run("and does not throw an exception: " + call,
                    WAY + "evening\ncount 11 = 4\n" + call + "\ncount 11 = 4\nundo = 3\ncount 2 = 0");
        }
    }

    public static void main(String[] arguments) {
        buffer();
        errors();
        forging();
        manyStamps();
        undo();
        eachUndoable();
        everything();
        Script.end();
    }
}
