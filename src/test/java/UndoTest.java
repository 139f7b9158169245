/** Promise 15, and of each method whether it is undoable. */
final class UndoTest {
    private static final String BEGIN = """
            addHostel 0 1 24
            addHostel 30 0 24
            addPilgrim 0 100
            evening
            undo
            evening
            6 times: undo
            addHostel 0 1 24
            addHostel 30 0 24
            addPilgrim 0 100
            evening
            """;

    private UndoTest() {
    }

    private static void sixStates() {
        Script.run("six states at most", """
                undo = ISE
                addHostel 0 1 24
                set 0 11
                set 0 12
                set 0 13
                set 0 14
                set 0 15
                count 11 = 6
                set 0 16
                set 0 17
                count 11 = 6
                undo = 5
                setting 0 = 16
                undo = 4
                undo = 3
                undo = 2
                undo = 1
                setting 0 = 12
                set 0 20                # from here on again
                undo = 1
                undo = 0
                setting 0 = 11
                undo = ISE
                setting 0 = 11
                count 0 = 1             # the oldest ones were dropped
                """);
    }

    private static void eachMethod() {
        String[] undoable = {"addHostel 100 1 20", "addPilgrim 0 5", "set 0 40", "walk 0 1", "ride 0 1", "evening",
            "lose 0", "lose 1", "rebuild 0", "rebuild 1", "blot 1 0"};
        for (String call : undoable) {
            Calls calls = new Calls(new StampHostels());
            prepare(calls);
            String before = calls.answer("digest");
            String saved = calls.answer("count", 11);
            String[] words = call.split(" ");
            int[] arguments = new int[words.length - 1];
            for (int i = 0; i < arguments.length; i++) {
                arguments[i] = Integer.parseInt(words[i + 1]);
            }
            String answer = calls.answer(words[0], arguments);
            Script.due(call + " does not throw", answer.startsWith("throws."), false);
            Script.due(call + " saves", calls.answer("count", 11), Integer.parseInt(saved) + 1);
            Script.due("undo of " + call, calls.answer("undo"), saved);
            Script.due("the digest behind undo of " + call, calls.answer("digest"), before);
        }
    }

    private static void prepare(Calls calls) {
        calls.answer("addHostel", 0, 1, 24);
        calls.answer("addHostel", 30, 0, 24);
        calls.answer("addPilgrim", 0, 100);
        calls.answer("addPilgrim", 1, 100);
        for (int i = 0; i < 3; i++) {
            calls.answer("evening");
        }
        calls.answer("lose", 1);
        calls.answer("blot", 0, 1);
        for (int i = 0; i < 4; i++) {
            calls.answer("undo");
        }
        calls.answer("append", 97);
    }

    private static void notUndoable() {
        Script.run("what saves nothing", BEGIN + """
                count 11 = 4
                append 97
                firstError
                clearBuffer
                hostel 0 0
                pilgrim 0 0
                stamp 0 0 0
                page 0 0
                count 0
                setting 0
                whyNot 0 1
                bedPlace 0
                fewestDays 0 1 0
                readings 0 0 0
                alike 0
                meanWeariness
                digest
                addHostel 0 1 24        # throws
                addPilgrim 2 0
                set 0 0
                walk 0 0
                ride 0 0
                lose 1
                rebuild 1
                blot 0 1
                forge 0
                count 11 = 4
                undo = 3
                """);
    }

    private static void everythingComesBack() {
        Script.run("undo of a forged pass", BEGIN + """
                text b1
                forge 0 = 2
                lose 0 = 2
                undo
                pilgrim 0 5 = 2
                stamp 0 1 0 = 1
                undo
                pilgrim 0 5 = 1
                clearBuffer = 0         # the buffer stays as forge left it
                ride 0 1 = 85
                count 10 = 10
                undo
                count 10 = 0
                pilgrim 0 2 = 95
                pilgrim 0 1 = 1
                pilgrim 0 4 = 0
                """);
        Script.run("undo of a shared pool", """
                addHostel 0 1 8
                addHostel 30 8 8
                addPilgrim 0 5
                evening
                set 1 0
                5 times: evening
                count 3 = 5
                walk 0 1 = 12
                pilgrim 0 1 = 0
                evening = 0
                hostel 0 3 = 5
                pilgrim 0 1 = 1
                undo = 5
                hostel 0 3 = 0
                hostel 0 4 = 6
                count 3 = 5
                pilgrim 0 1 = 0
                pilgrim 0 4 = 12
                bedPlace 0 = -1
                undo = 4
                pilgrim 0 1 = 1
                pilgrim 0 0 = 0
                pilgrim 0 8 = 0
                undo = 3
                hostel 0 4 = 5
                count 2 = 5
                """);
    }

    public static void main(String[] arguments) {
        sixStates();
        eachMethod();
        notUndoable();
        everythingComesBack();
        Script.end();
    }
}
