import java.util.ArrayList;
import java.util.Arrays;
import java.util.List;
import java.util.Map;
import java.util.TreeMap;
import java.math.BigInteger;

/**
 * The document once more, written as slowly and as near to its words as can be, with the Java library, and without
 * what the program does to be short: states are copied as wholes, all wearinesses are followed, all rows are counted.
 */
final class Model {
    private static final int[][] RANGES = {{5, 60}, {0, 20}, {4, 12}, {0, 60}, {0, 60}, {1, 20}, {0, 50}};

    private static final class House {
        int place, beds, closing, money, nights;

        House copy() {
            House h = new House();
            h.place = place;
            h.beds = beds;
            h.closing = closing;
            h.money = money;
            h.nights = nights;
            return h;
        }
    }

    private static final class Person {
        int at, money, weariness, hour, km, beds;
        boolean inside = true, moved;
        List<List<Integer>> pass = new ArrayList<>();

        Person copy() {
            Person p = new Person();
            p.at = at;
            p.money = money;
            p.weariness = weariness;
            p.hour = hour;
            p.km = km;
            p.beds = beds;
            p.inside = inside;
            p.moved = moved;
            p.pass = new ArrayList<>(pass);
            return p;
        }
    }

    private static final class World {
        List<House> houses = new ArrayList<>();
        List<Person> people = new ArrayList<>();
        int[] settings = {40, 5, 7, 40, 10, 8, 10};
        int day, pool, rides;
        Map<String, List<Integer>> book = new TreeMap<>();
        Map<String, Boolean> blots = new TreeMap<>();

        World copy() {
            World w = new World();
            for (House h : houses) {
                w.houses.add(h.copy());
            }
            for (Person p : people) {
                w.people.add(p.copy());
            }
            w.settings = settings.clone();
            w.day = day;
            w.pool = pool;
            w.rides = rides;
            w.book = new TreeMap<>(book);
            w.blots = new TreeMap<>(blots);
            return w;
        }
    }

    private World w = new World();
    private final List<World> saved = new ArrayList<>();
    private String buffer = "";

    private void index(boolean good) {
        if (!good) {
            throw new IndexOutOfBoundsException();
        }
    }

    private void argument(boolean good) {
        if (!good) {
            throw new IllegalArgumentException();
        }
    }

    private void state(boolean good) {
        if (!good) {
            throw new IllegalStateException();
        }
    }

    private boolean isHouse(int h) {
        return h >= 0 && h < w.houses.size();
    }

    private boolean isPerson(int p) {
        return p >= 0 && p < w.people.size();
    }

    private void save() {
        saved.add(w.copy());
        if (saved.size() > 6) {
            saved.remove(0);
        }
    }

    public int addHostel(int place, int beds, int closing) {
        argument(place >= 0 && place <= 300 && beds >= 0 && beds <= 8 && closing >= 8 && closing <= 24);
        state(w.houses.size() < 10);
        for (House h : w.houses) {
            state(h.place != place);
        }
        save();
        House h = new House();
        h.place = place;
        h.beds = beds;
        h.closing = closing;
        w.houses.add(h);
        return w.houses.size() - 1;
    }

    public int addPilgrim(int hostel, int money) {
        index(isHouse(hostel));
        argument(money >= 0 && money <= 1000);
        state(w.people.size() < 8);
        save();
        Person p = new Person();
        p.at = hostel;
        p.money = money;
        w.people.add(p);
        return w.people.size() - 1;
    }

    public int set(int setting, int value) {
        index(setting >= 0 && setting <= 6);
        argument(value >= RANGES[setting][0] && value <= RANGES[setting][1]);
        save();
        int previous = w.settings[setting];
        w.settings[setting] = value;
        return previous;
    }

    private int distance(int a, int b) {
        return Math.abs(w.houses.get(a).place - w.houses.get(b).place);
    }

    private int hour(int weariness, int distance) {
        int speed = 6 - weariness / 20;
        int hours = 0;
        while (hours * speed < distance) {
            hours++;
        }
        return w.settings[2] + hours;
    }

    public int walk(int pilgrim, int hostel) {
        index(isPerson(pilgrim) && isHouse(hostel));
        state(whyNot(pilgrim, hostel) == 0);
        save();
        Person p = w.people.get(pilgrim);
        int d = distance(p.at, hostel);
        p.hour = hour(p.weariness, d);
        p.moved = true;
        p.weariness += d * w.settings[5] / 10;
        p.km += d;
        p.at = hostel;
        p.inside = p.hour <= w.houses.get(hostel).closing;
        return p.hour;
    }

    public int ride(int pilgrim, int hostel) {
        index(isPerson(pilgrim) && isHouse(hostel));
        Person p = w.people.get(pilgrim);
        state(!p.moved && p.at != hostel && p.money >= w.settings[6]);
        save();
        p.money -= w.settings[6];
        w.rides += w.settings[6];
        p.at = hostel;
        p.hour = 12;
        p.moved = true;
        p.inside = 12 <= w.houses.get(hostel).closing;
        return p.money;
    }

    private List<Integer> order(int hostel) {
        List<Integer> order = new ArrayList<>();
        for (int i = 0; i < w.people.size(); i++) {
            if (w.people.get(i).inside && w.people.get(i).at == hostel) {
                order.add(i);
            }
        }
        order.sort((a, b) -> {
            Person x = w.people.get(a);
            Person y = w.people.get(b);
            if (x.weariness != y.weariness) {
                return y.weariness - x.weariness;
            }
            return x.hour != y.hour ? x.hour - y.hour : a - b;
        });
        return order;
    }

    public int evening() {
        state(w.day < 999);
        save();
        for (Person p : w.people) {
            if (!p.inside) {
                p.weariness = Math.min(100, p.weariness + 10);
            }
        }
        int given = 0;
        for (int h = 0; h < w.houses.size(); h++) {
            List<Integer> order = order(h);
            for (int place = 0; place < order.size(); place++) {
                Person p = w.people.get(order.get(place));
                boolean bed = place < w.houses.get(h).beds;
                p.weariness = Math.max(0, p.weariness - w.settings[bed ? 3 : 4]);
                if (bed) {
                    given++;
                    p.beds++;
                    int gift = Math.min(w.settings[1], p.money);
                    p.money -= gift;
                    w.pool += gift;
                    w.houses.get(h).nights++;
                }
                p.pass.add(List.of(h, w.day));
            }
            w.book.put(h + "/" + w.day, order);
        }
        w.day++;
        share();
        for (Person p : w.people) {
            p.inside = true;
            p.moved = false;
            p.hour = 0;
        }
        return given;
    }

    private void share() {
        int nights = count(6);
        if (w.day % 7 != 0 || nights == 0) {
            return;
        }
        List<Integer> order = new ArrayList<>();
        int left = w.pool;
        for (int h = 0; h < w.houses.size(); h++) {
            House house = w.houses.get(h);
            order.add(h);
            house.money += w.pool * house.nights / nights;
            left -= w.pool * house.nights / nights;
        }
        order.sort((a, b) -> w.pool * w.houses.get(b).nights % nights - w.pool * w.houses.get(a).nights % nights);
        for (int i = 0; i < left; i++) {
            w.houses.get(order.get(i)).money++;
        }
        w.pool = 0;
        for (House house : w.houses) {
            house.nights = 0;
        }
    }

    public int lose(int pilgrim) {
        index(isPerson(pilgrim));
        save();
        int had = w.people.get(pilgrim).pass.size();
        w.people.get(pilgrim).pass.clear();
        return had;
    }

    private boolean isBlotted(int hostel, int day) {
        return w.blots.containsKey(hostel + "/" + day);
    }

    private List<Integer> entered(int hostel, int day) {
        return w.book.getOrDefault(hostel + "/" + day, new ArrayList<>());
    }

    private List<List<Integer>> rebuilt(int pilgrim) {
        List<List<Integer>> pass = new ArrayList<>();
        for (int day = 0; day < w.day; day++) {
            for (int h = 0; h < w.houses.size(); h++) {
                if (!isBlotted(h, day) && entered(h, day).contains(pilgrim)) {
                    pass.add(List.of(h, day));
                }
            }
        }
        return pass;
    }

    public int rebuild(int pilgrim) {
        index(isPerson(pilgrim));
        save();
        w.people.get(pilgrim).pass = rebuilt(pilgrim);
        return w.people.get(pilgrim).pass.size();
    }

    public int blot(int hostel, int day) {
        index(isHouse(hostel));
        argument(day >= 0 && day < w.day);
        state(!isBlotted(hostel, day));
        save();
        w.blots.put(hostel + "/" + day, true);
        return entered(hostel, day).size();
    }

    public int append(int code) {
        argument(code >= 33 && code <= 126);
        state(buffer.length() < 60);
        buffer += (char) code;
        return buffer.length();
    }

    public int clearBuffer() {
        int had = buffer.length();
        buffer = "";
        return had;
    }

    private static boolean isList(String text) {
        return text.matches("[a-j](0|[1-9][0-9]{0,2})(,[a-j](0|[1-9][0-9]{0,2}))*");
    }

    public int firstError() {
        for (int i = 0; i < buffer.length(); i++) {
            String start = buffer.substring(0, i + 1);
            // a text begins a list if one of the shortest ways to end it makes a list of it
            if (!isList(start) && !isList(start + "0") && !isList(start + "a0")) {
                return i;
            }
        }
        return buffer.length();
    }

    public int forge(int pilgrim) {
        index(isPerson(pilgrim));
        argument(isList(buffer));
        List<List<Integer>> stamps = new ArrayList<>();
        for (String one : buffer.split(",")) {
            stamps.add(List.of(one.charAt(0) - 'a', Integer.parseInt(one.substring(1))));
        }
        for (List<Integer> one : stamps) {
            state(isHouse(one.get(0)));
        }
        state(w.people.get(pilgrim).pass.size() + stamps.size() <= 1200);
        save();
        w.people.get(pilgrim).pass.addAll(stamps);
        buffer = "";
        return w.people.get(pilgrim).pass.size();
    }

    public int undo() {
        state(!saved.isEmpty());
        w = saved.remove(saved.size() - 1);
        return saved.size();
    }

    public int hostel(int hostel, int what) {
        index(isHouse(hostel));
        argument(what >= 0 && what <= 7);
        House h = w.houses.get(hostel);
        int there = 0;
        int inside = 0;
        for (Person p : w.people) {
            if (p.at == hostel) {
                there++;
                inside += p.inside ? 1 : 0;
            }
        }
        int entries = 0;
        for (int day = 0; day < w.day; day++) {
            entries += isBlotted(hostel, day) ? 0 : entered(hostel, day).size();
        }
        return new int[] {h.place, h.beds, h.closing, h.money, h.nights, there, inside, entries}[what];
    }

    private boolean isFalse(int pilgrim, List<Integer> stamp) {
        return !isBlotted(stamp.get(0), stamp.get(1)) && !entered(stamp.get(0), stamp.get(1)).contains(pilgrim);
    }

    public int pilgrim(int pilgrim, int what) {
        index(isPerson(pilgrim));
        argument(what >= 0 && what <= 9);
        Person p = w.people.get(pilgrim);
        int proven = 0;
        int wrong = 0;
        List<Integer> before = null;
        for (List<Integer> stamp : p.pass) {
            wrong += isFalse(pilgrim, stamp) ? 1 : 0;
            if (before != null) {
                int d = distance(before.get(0), stamp.get(0));
                int days = stamp.get(1) - before.get(1);
                proven += days > 0 && d <= days * w.settings[0] ? d : 0;
            }
            before = stamp;
        }
        return new int[] {p.at, p.inside ? 1 : 0, p.money, p.weariness, p.hour, p.pass.size(), proven, wrong, p.km,
            p.beds}[what];
    }

    public int stamp(int pilgrim, int stamp, int what) {
        index(isPerson(pilgrim) && stamp >= 0 && stamp < w.people.get(pilgrim).pass.size());
        argument(what >= 0 && what <= 2);
        List<Integer> told = w.people.get(pilgrim).pass.get(stamp);
        return what == 2 ? (isFalse(pilgrim, told) ? 1 : 0) : told.get(what);
    }

    public int page(int hostel, int day) {
        index(isHouse(hostel));
        argument(day >= 0 && day < w.day);
        int mask = 0;
        for (int p : entered(hostel, day)) {
            mask += 1 << p;
        }
        return isBlotted(hostel, day) ? -1 : mask;
    }

    public int count(int what) {
        argument(what >= 0 && what <= 11);
        int[] sums = new int[12];
        sums[0] = w.houses.size();
        sums[1] = w.people.size();
        sums[2] = w.day;
        sums[3] = w.pool;
        for (House h : w.houses) {
            sums[4] += h.money;
            sums[6] += h.nights;
        }
        for (Person p : w.people) {
            sums[5] += p.money;
            sums[7] += p.beds;
            sums[8] += p.pass.size();
        }
        sums[9] = w.blots.size();
        sums[10] = w.rides;
        sums[11] = saved.size();
        return sums[what];
    }

    public int setting(int setting) {
        index(setting >= 0 && setting <= 6);
        return w.settings[setting];
    }

    public int whyNot(int pilgrim, int hostel) {
        index(isPerson(pilgrim) && isHouse(hostel));
        Person p = w.people.get(pilgrim);
        if (p.moved) {
            return 1;
        }
        if (p.at == hostel) {
            return 2;
        }
        int d = distance(p.at, hostel);
        return d > w.settings[0] ? 3 : p.weariness + d * w.settings[5] / 10 > 100 ? 4 : 0;
    }

    public int bedPlace(int pilgrim) {
        index(isPerson(pilgrim));
        return order(w.people.get(pilgrim).at).indexOf(pilgrim);
    }

    private int morning(int hostel, int weariness, int hour) {
        return hour <= w.houses.get(hostel).closing
                ? Math.max(0, weariness - w.settings[3]) : Math.min(100, weariness + 10);
    }

    /** For each hostel, days and first hostel, -1 where there is none: every weariness is followed for 30 days. */
    private int[][] allFewestDays(int pilgrim) {
        Person p = w.people.get(pilgrim);
        int n = w.houses.size();
        int[][] found = new int[n][];
        for (int h = 0; h < n; h++) {
            found[h] = h == p.at ? new int[] {0, -1} : new int[] {-1, -1};
        }
        for (int first = 0; first < n; first++) {
            boolean[][] can = new boolean[n][101];
            if (first == p.at) {
                can[first][p.inside ? Math.max(0, p.weariness - w.settings[3]) : Math.min(100, p.weariness + 10)] = true;
            } else if (whyNot(pilgrim, first) == 0) {
                int d = distance(p.at, first);
                found[first] = new int[] {1, first};
                can[first][morning(first, p.weariness + d * w.settings[5] / 10, hour(p.weariness, d))] = true;
            }
            for (int day = 2; day <= 30; day++) {
                can = nextDay(can, first, day, found);
            }
        }
        return found;
    }

    private boolean[][] nextDay(boolean[][] can, int first, int day, int[][] found) {
        int n = w.houses.size();
        boolean[][] next = new boolean[n][101];
        for (int h = 0; h < n; h++) {
            for (int weary = 0; weary <= 100; weary++) {
                if (!can[h][weary]) {
                    continue;
                }
                next[h][Math.max(0, weary - w.settings[3])] = true;
                for (int to = 0; to < n; to++) {
                    int d = distance(h, to);
                    int then = weary + d * w.settings[5] / 10;
                    if (to == h || d > w.settings[0] || then > 100) {
                        continue;
                    }
                    next[to][morning(to, then, hour(weary, d))] = true;
                    if (found[to][0] == -1 || found[to][0] > day) {
                        found[to] = new int[] {day, first};
                    }
                }
            }
        }
        return next;
    }

    public int fewestDays(int pilgrim, int hostel, int what) {
        index(isPerson(pilgrim) && isHouse(hostel));
        argument(what == 0 || what == 1);
        return allFewestDays(pilgrim)[hostel][what];
    }

    private boolean couldBe(int pilgrim, int hostel, int day) {
        for (int h = 0; h < w.houses.size(); h++) {
            if (!isBlotted(h, day) && entered(h, day).contains(pilgrim)) {
                return h == hostel;
            }
        }
        return isBlotted(hostel, day) || entered(hostel, day).contains(pilgrim);
    }

    public int readings(int pilgrim, int from, int to) {
        index(isPerson(pilgrim));
        argument(from >= 0 && from < w.day && to >= from && to < w.day && to - from <= 29);
        int n = w.houses.size();
        BigInteger[] rows = new BigInteger[n];
        for (int day = from; day <= to; day++) {
            BigInteger[] longer = new BigInteger[n];
            for (int h = 0; h < n; h++) {
                longer[h] = BigInteger.ZERO;
                for (int g = 0; g < n && day > from; g++) {
                    if (couldBe(pilgrim, h, day) && distance(g, h) <= w.settings[0]) {
                        longer[h] = longer[h].add(rows[g]);
                    }
                }
                if (day == from && couldBe(pilgrim, h, day)) {
                    longer[h] = BigInteger.ONE;
                }
            }
            rows = longer;
        }
        BigInteger sum = BigInteger.ZERO;
        for (BigInteger one : rows) {
            sum = sum.add(one);
        }
        return sum.min(BigInteger.valueOf(1000000)).intValue();
    }

    public int alike(int pilgrim) {
        index(isPerson(pilgrim));
        List<List<Integer>> now = w.people.get(pilgrim).pass;
        List<List<Integer>> then = rebuilt(pilgrim);
        int same = 0;
        while (same < now.size() && same < then.size() && now.get(same).equals(then.get(same))) {
            same++;
        }
        return same;
    }

    public double meanWeariness() {
        return w.people.isEmpty() ? 0.0
                : (double) w.people.stream().mapToInt(p -> p.weariness).sum() / w.people.size();
    }

    public long digest() {
        List<Long> values = new ArrayList<>();
        for (int i = 0; i < 12; i++) {
            values.add((long) count(i));
        }
        for (int one : w.settings) {
            values.add((long) one);
        }
        for (int h = 0; h < w.houses.size(); h++) {
            for (int i = 0; i < 8; i++) {
                values.add((long) hostel(h, i));
            }
            for (int day = Math.max(0, w.day - 7); day < w.day; day++) {
                values.add((long) page(h, day));
            }
        }
        for (int p = 0; p < w.people.size(); p++) {
            addPilgrimValues(values, p);
        }
        values.add(Double.doubleToLongBits(meanWeariness()));
        values.add((long) buffer.length());
        for (char c : buffer.toCharArray()) {
            values.add((long) c);
        }
        long hash = 2347;
        for (long v : values) {
            hash = 31 * hash + v;
        }
        return hash;
    }

    private void addPilgrimValues(List<Long> values, int p) {
        for (int i = 0; i < 10; i++) {
            values.add((long) pilgrim(p, i));
        }
        values.add((long) bedPlace(p));
        values.add((long) alike(p));
        int[][] fewest = allFewestDays(p);
        for (int h = 0; h < w.houses.size(); h++) {
            values.add((long) whyNot(p, h));
            values.add((long) fewest[h][0]);
            values.add((long) fewest[h][1]);
        }
        int stamps = w.people.get(p).pass.size();
        for (int i = Math.max(0, stamps - 7); i < stamps; i++) {
            for (int what = 0; what < 3; what++) {
                values.add((long) stamp(p, i, what));
            }
        }
    }

    @Override
    public String toString() {
        return "day " + w.day + " " + Arrays.toString(w.settings);
    }
}
