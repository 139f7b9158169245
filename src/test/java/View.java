/** All that can be seen of an object, with what undo would bring back: two objects of the same state look the same. */
final class View {
    private final Calls calls;
    private final StringBuilder seen = new StringBuilder();

    private View(Calls calls) {
        this.calls = calls;
    }

    /** The object is used up by it: all its saved states are restored, one behind the other, and its buffer is cleared. */
    static String of(Calls calls) {
        View view = new View(calls);
        view.look();
        for (int i = view.number("count", 11); i > 0; i--) {
            view.see("undo");
            view.look();
        }
        view.see("clearBuffer");
        return view.seen.toString();
    }

    private int number(String name, int... arguments) {
        return Integer.parseInt(calls.answer(name, arguments));
    }

    private void see(String name, int... arguments) {
        seen.append(name);
        for (int one : arguments) {
            seen.append(' ').append(one);
        }
        seen.append(" = ").append(calls.answer(name, arguments)).append('\n');
    }

    private void look() {
        int day = number("count", 2);
        for (int what = 0; what <= 11; what++) {
            see("count", what);
        }
        for (int setting = 0; setting <= 6; setting++) {
            see("setting", setting);
        }
        for (int hostel = number("count", 0) - 1; hostel >= 0; hostel--) {
            for (int what = 0; what <= 7; what++) {
                see("hostel", hostel, what);
            }
            for (int i = 0; i < day; i++) {
                see("page", hostel, i);
            }
        }
        for (int pilgrim = number("count", 1) - 1; pilgrim >= 0; pilgrim--) {
            lookAtPilgrim(pilgrim, day);
        }
        see("meanWeariness");
        see("firstError");
        see("digest");
    }

    private void lookAtPilgrim(int pilgrim, int day) {
        for (int what = 0; what <= 9; what++) {
            see("pilgrim", pilgrim, what);
        }
        for (int i = number("pilgrim", pilgrim, 5) - 1; i >= 0; i--) {
            see("stamp", pilgrim, i, 0);
            see("stamp", pilgrim, i, 1);
        }
        for (int hostel = number("count", 0) - 1; hostel >= 0; hostel--) {
            see("whyNot", pilgrim, hostel);
            see("fewestDays", pilgrim, hostel, 0);
            see("fewestDays", pilgrim, hostel, 1);
        }
        see("bedPlace", pilgrim);
        see("alike", pilgrim);
        if (day > 0) {
            see("readings", pilgrim, Math.max(0, day - 30), day - 1);
        }
    }
}
