/** Promises 8 to 10, 16 to 20 and 26: passes, books, blots, proofs, false stamps, what a pass would be rebuilt to. */
final class BooksTest {
    private BooksTest() {
    }

    private static final String TWO_DAYS = """
            addHostel 0 1 24
            addHostel 30 0 24
            addPilgrim 0 100
            addPilgrim 0 100
            evening
            walk 0 1
            evening
            """;

    private static void losing() {
        Script.run("lose", TWO_DAYS + """
                lose 2 = IOOBE
                lose -1 = IOOBE
                lose 0 = 2
                pilgrim 0 5 = 0
                count 8 = 2
                lose 0 = 0
                stamp 0 0 0 = IOOBE
                hostel 0 7 = 3          # the books stay
                evening
                pilgrim 0 5 = 1
                stamp 0 0 1 = 2
                """);
    }

    private static void rebuilding() {
        Script.run("rebuild", TWO_DAYS + """
                rebuild 2 = IOOBE
                rebuild -1 = IOOBE
                lose 0 = 2
                rebuild 0 = 2
                stamp 0 0 0 = 0
                stamp 0 0 1 = 0
                stamp 0 1 0 = 1
                stamp 0 1 1 = 1
                blot 0 0 = 2
                rebuild 0 = 1           # in place of what it has
                stamp 0 0 0 = 1
                stamp 0 0 1 = 1
                rebuild 1 = 1
                stamp 1 0 1 = 1
                text j9
                clearBuffer
                text b1,a7
                forge 1 = 3
                rebuild 1 = 1
                undo
                pilgrim 1 5 = 3
                """);
    }

    private static void blotting() {
        Script.run("blot and page", TWO_DAYS + """
                page 0 0 = 3
                page 0 1 = 2
                page 1 0 = 0
                page 1 1 = 1
                page 2 0 = IOOBE
                page -1 0 = IOOBE
                page 2 5 = IOOBE
                page 0 -1 = IAE
                page 0 2 = IAE
                blot 2 0 = IOOBE
                blot -1 0 = IOOBE
                blot 2 2 = IOOBE
                blot 0 -1 = IAE
                blot 0 2 = IAE
                hostel 0 7 = 3
                count 9 = 0
                blot 0 0 = 2
                blot 0 0 = ISE
                page 0 0 = -1
                page 0 1 = 2
                page 1 0 = 0
                hostel 0 7 = 1
                count 9 = 1
                blot 1 0 = 0
                count 9 = 2
                undo
                undo
                page 0 0 = 3
                count 9 = 0
                addHostel 9 1 20 = 2
                page 2 0 = 0            # a page from before the hostel came
                blot 2 0 = 0
                page 2 0 = -1
                evening
                undo
                undo
                undo
                evening
                addHostel 9 1 20 = 2
                page 2 0 = 0
                """);
        Script.run("a page is new when its day comes again", """
                addHostel 0 1 24
                addPilgrim 0 1
                evening
                blot 0 0 = 1
                undo
                undo
                evening
                page 0 0 = 1
                count 9 = 0
                """);
    }

    private static void falseStamps() {
        Script.run("false stamps", TWO_DAYS + """
                text a0,b0,a1,b1,a2,b999
                forge 0 = 8
                stamp 0 2 0 = 0
                stamp 0 2 1 = 0
                stamp 0 2 2 = 0         # a true one, though forged
                stamp 0 3 2 = 1
                stamp 0 4 2 = 1
                stamp 0 5 2 = 0
                stamp 0 6 2 = 1         # the day has not come
                stamp 0 7 1 = 999
                stamp 0 7 2 = 1
                pilgrim 0 7 = 4
                count 8 = 10
                blot 1 0
                stamp 0 3 2 = 0         # nothing can be read there
                pilgrim 0 7 = 3
                blot 0 0
                pilgrim 0 7 = 3         # a true one stays one
                evening
                stamp 0 6 2 = 1
                stamp 0 8 0 = 1
                stamp 0 8 1 = 2
                stamp 0 9 0 = IOOBE
                stamp 0 -1 0 = IOOBE
                stamp 2 0 0 = IOOBE
                stamp -1 0 0 = IOOBE
                stamp 0 9 3 = IOOBE
                stamp 0 0 3 = IAE
                stamp 0 0 -1 = IAE
                """);
    }

    private static void stampsOfUndoneDays() {
        Script.run("a page of a day that was undone", """
                addHostel 0 1 24
                addPilgrim 0 5
                text a0
                forge 0 = 1
                stamp 0 0 2 = 1
                evening
                stamp 0 0 2 = 0
                undo
                stamp 0 0 2 = 1         # the day has not come again
                evening
                blot 0 0
                stamp 0 0 2 = 0
                undo
                undo
                stamp 0 0 2 = 1
                pilgrim 0 7 = 1
                alike 0 = 0
                rebuild 0 = 0
                """);
        StringBuilder ten = new StringBuilder();
        for (int i = 0; i < 10; i++) {
            ten.append("addHostel ").append(30 * i).append(" 1 20\n");
        }
        Script.run("ten hostels in the books", ten + """
                addPilgrim 0 5
                evening
                evening
                blot 0 0
                alike 0 = 0
                rebuild 0 = 1
                stamp 0 0 1 = 1
                hostel 9 7 = 0
                hostel 0 7 = 1
                """);
    }

    private static void proofs() {
        Script.run("the distance that a pass proves", """
                addHostel 0 1 24
                addHostel 40 1 24
                addHostel 81 1 24
                addHostel 200 1 24
                addPilgrim 0 100
                pilgrim 0 6 = 0
                text a0
                forge 0 = 1
                pilgrim 0 6 = 0
                text b1
                forge 0 = 2
                pilgrim 0 6 = 40        # just as far as a day's way
                text c2
                forge 0 = 3
                pilgrim 0 6 = 40        # 41 in one day is too far
                text b4
                forge 0 = 4
                pilgrim 0 6 = 81        # 41 in two days is not
                text a4
                forge 0 = 5
                pilgrim 0 6 = 81        # no later day
                text b3
                forge 0 = 6
                pilgrim 0 6 = 81
                text d7
                forge 0 = 7
                pilgrim 0 6 = 241       # 160 in four days
                text d9
                forge 0 = 8
                pilgrim 0 6 = 241
                set 0 39
                pilgrim 0 6 = 41        # by the setting as it is now
                """);
    }

    private static void rebuiltAlike() {
        Script.run("alike", TWO_DAYS + """
                alike 2 = IOOBE
                alike -1 = IOOBE
                alike 0 = 2
                text a0
                forge 0 = 3
                alike 0 = 2             # more in the pass than in the books
                lose 0
                alike 0 = 0
                text a0
                forge 0 = 1
                alike 0 = 1             # less in the pass
                text a1
                forge 0 = 2
                alike 0 = 1             # another hostel
                lose 0
                text b1
                forge 0 = 1
                alike 0 = 0             # another day at first
                blot 0 0
                alike 0 = 1
                blot 1 1
                alike 0 = 0
                alike 1 = 0
                count 11 = 6
                """);
    }

    private static void numbers() {
        Script.run("hostel and count", TWO_DAYS + """
                hostel 0 5 = 1
                hostel 0 6 = 1
                hostel 1 5 = 1
                hostel 0 7 = 3
                hostel 1 7 = 1
                count 0 = 2
                count 1 = 2
                count 2 = 2
                count 3 = 10
                count 4 = 0
                count 5 = 190
                count 6 = 2
                count 7 = 2
                count 8 = 4
                count 9 = 0
                count 10 = 0
                count 11 = 6
                count 12 = IAE
                count -1 = IAE
                """);
    }

    public static void main(String[] arguments) {
        losing();
        rebuilding();
        blotting();
        falseStamps();
        stampsOfUndoneDays();
        proofs();
        rebuiltAlike();
        numbers();
        Script.end();
    }
}
