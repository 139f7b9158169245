import java.util.ArrayList;
import java.util.List;

/** Compares the program with the model over runs of calls that a fixed row of numbers chooses. */
final class RandomRunsTest {
    private static final int RUNS = 600;
    private static final int CALLS = 512;

    private long seed;
    private final List<String> told = new ArrayList<>();
    private Calls program;
    private Calls model;
    private int hostels;
    private int pilgrims;
    private int day;

    private RandomRunsTest(int run) {
        seed = 1000003L * run + 17;
    }

    private int any(int bound) {
        seed = seed * 6364136223846793005L + 1442695040888963407L;
        return (int) ((seed >>> 33) % bound);
    }

    /** A number from low to high, at times one beside it. */
    private int near(int low, int high) {
        int pick = any(60);
        if (pick == 0) {
            return low - 1;
        }
        if (pick == 1) {
            return high + 1;
        }
        if (pick == 2) {
            return any(2) == 0 ? Integer.MIN_VALUE : Integer.MAX_VALUE;
        }
        return high < low ? low : low + any(high - low + 1);
    }

    private String both(String name, int... arguments) {
        String got = program.answer(name, arguments);
        String want = model.answer(name, arguments);
        StringBuilder call = new StringBuilder(name);
        for (int one : arguments) {
            call.append(' ').append(one);
        }
        told.add(call + " = " + want);
        if (!got.equals(want)) {
            System.out.println("answered " + got + " at the end of this run:");
            told.forEach(System.out::println);
            System.exit(1);
        }
        return want;
    }

    private int number(String name, int... arguments) {
        return Integer.parseInt(both(name, arguments));
    }

    private void run(int run) {
        program = new Calls(new StampHostels());
        model = new Calls(new Model());
        int crowd = any(9);
        int spread = 20 + any(281);
        for (int i = any(11); i >= 0; i--) {
            both("addHostel", near(0, spread), near(0, run % 3 == 0 ? 8 : 2), near(8, 24));
        }
        for (int i = 0; i < crowd; i++) {
            both("addPilgrim", near(0, Math.max(0, number("count", 0) - 1)), near(0, any(3) == 0 ? 20 : 1000));
        }
        int style = any(4);
        while (told.size() < CALLS) {
            hostels = number("count", 0);
            pilgrims = number("count", 1);
            day = number("count", 2);
            step(style);
            if (any(40) == 0) {
                both("digest");
            }
        }
        both("digest");
    }

    private int someHostel() {
        return near(0, hostels - 1);
    }

    private int somePilgrim() {
        return near(0, pilgrims - 1);
    }

    private void step(int style) {
        int pick = any(100);
        if (style == 1 && pick < 30) {
            blotSome();
        } else if (style == 2 && pick < 40 || pick < 12) {
            both("evening");
        } else if (pick < 35) {
            walkSome();
        } else if (pick < 43) {
            both("ride", somePilgrim(), someHostel());
        } else if (pick < 55) {
            changeSome();
        } else if (pick < 66) {
            bookCalls();
        } else if (pick < 75) {
            texts();
        } else if (pick < 80) {
            for (int i = any(style == 3 ? 8 : 2); i >= 0; i--) {
                both("undo");
            }
        } else {
            look();
        }
    }

    private void walkSome() {
        int pilgrim = somePilgrim();
        int hostel = someHostel();
        for (int i = 0; i < hostels; i++) {
            int other = any(hostels);
            if (pilgrim >= 0 && pilgrim < pilgrims && number("whyNot", pilgrim, other) == 0) {
                hostel = other;
                break;
            }
        }
        both("walk", pilgrim, hostel);
    }

    private void blotSome() {
        both("evening");
        for (int i = any(4); i >= 0; i--) {
            both("blot", someHostel(), near(Math.max(0, day - 10), day));
        }
        int from = near(Math.max(0, day - 12), day);
        both("readings", somePilgrim(), from, near(from, Math.min(from + 29, day)));
    }

    private void changeSome() {
        int[][] ranges = {{5, 60}, {0, 20}, {4, 12}, {0, 60}, {0, 60}, {1, 20}, {0, 50}};
        int pick = any(6);
        if (pick == 0) {
            both("addHostel", near(0, 300), near(0, 8), near(8, 24));
        } else if (pick == 1) {
            both("addPilgrim", someHostel(), near(0, 1000));
        } else {
            int setting = near(0, 6);
            int[] range = setting >= 0 && setting <= 6 ? ranges[setting] : ranges[0];
            both("set", setting, near(range[0], range[1]));
        }
    }

    private void bookCalls() {
        int pick = any(8);
        if (pick == 0) {
            both("lose", somePilgrim());
        } else if (pick == 1) {
            both("rebuild", somePilgrim());
        } else if (pick < 5) {
            both("blot", someHostel(), near(0, day - 1));
        } else {
            both("page", someHostel(), near(0, day - 1));
        }
    }

    private void texts() {
        StringBuilder text = new StringBuilder();
        for (int i = any(3); i >= 0; i--) {
            text.append((char) ('a' + any(Math.max(1, Math.min(10, hostels + any(2)))))).append(near(0, any(5) == 0 ? 999 : day + 2));
            text.append(i > 0 || any(12) == 0 ? "," : "");
        }
        if (any(4) == 0) {
            text.setCharAt(any(text.length()), (char) near(33, 126));
        }
        for (int i = 0; i < text.length(); i++) {
            both("append", text.charAt(i));
        }
        both("firstError");
        if (any(4) != 0) {
            both("forge", somePilgrim());
        }
        if (any(6) != 0) {
            both("clearBuffer");
        }
    }

    private void look() {
        int pick = any(11);
        if (pick == 0) {
            both("hostel", someHostel(), near(0, 7));
        } else if (pick == 1) {
            both("pilgrim", somePilgrim(), near(0, 9));
        } else if (pick == 2) {
            int pilgrim = somePilgrim();
            int stamps = pilgrim >= 0 && pilgrim < pilgrims ? number("pilgrim", pilgrim, 5) : 3;
            both("stamp", pilgrim, near(0, stamps - 1), near(0, 2));
        } else if (pick == 3) {
            both("count", near(0, 11));
        } else if (pick == 4) {
            both("setting", near(0, 6));
        } else if (pick == 5) {
            both("whyNot", somePilgrim(), someHostel());
        } else if (pick == 6) {
            both("bedPlace", somePilgrim());
        } else if (pick == 7) {
            both("fewestDays", somePilgrim(), someHostel(), near(0, 1));
        } else if (pick == 8) {
            both("readings", somePilgrim(), near(0, day - 1), near(0, day - 1));
        } else if (pick == 9) {
            both("alike", somePilgrim());
        } else {
            both("meanWeariness");
        }
    }

    public static void main(String[] arguments) {
        for (int i = 0; i < RUNS; i++) {
            new RandomRunsTest(i).run(i);
        }
        System.out.println(RUNS + " runs are as the model's");
    }
}
