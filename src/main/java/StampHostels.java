import java.util.Arrays;

/** Hostels along a pilgrims' way: days, beds, a pool, passes, books, texts of stamps, and undo. */
public final class StampHostels {
    public static final int NONE = -1;

    private static final int MAX_HOSTELS = 10;
    private static final int MAX_PILGRIMS = 8;
    private static final int MAX_SAVED = 6;
    private static final int LAST_DAY = 999;
    private static final int DAYS_OF_A_ROUND = 7;

    private static final int MAX_PLACE = 300;
    private static final int MAX_BEDS = 8;
    private static final int MIN_CLOSING = 8;
    private static final int MAX_CLOSING = 24;
    private static final int MAX_MONEY = 1000;
    private static final int MAX_WEARINESS = 100;
    private static final int OUTSIDE_WEARINESS = 10;
    private static final int RIDE_HOUR = 12;

    private static final int LONGEST_WAY = 0;
    private static final int DONATION = 1;
    private static final int SET_OUT = 2;
    private static final int BED_REST = 3;
    private static final int FLOOR_REST = 4;
    private static final int WALK_WEARINESS = 5;
    private static final int RIDE_PRICE = 6;
    private static final int SETTINGS = 7;
    private static final int[] LOWEST = {5, 0, 4, 0, 0, 1, 0};
    private static final int[] GREATEST = {60, 20, 12, 60, 60, 20, 50};
    private static final int[] AT_FIRST = {40, 5, 7, 40, 10, 8, 10};

    private static final int MAX_FORGED = 1200;
    private static final int MAX_STAMPS = MAX_FORGED + LAST_DAY;
    private static final int MAX_PAGES = MAX_HOSTELS * LAST_DAY;
    private static final int MAX_TEXT = 60;
    private static final int MIN_CODE = 33;
    private static final int MAX_CODE = 126;

    private static final int MAX_PLANNED_DAYS = 30;
    private static final int MAX_READ_DAYS = 30;
    private static final int MAX_READINGS = 1000000;
    private static final int SHOWN_LAST = 7;

    private final Way way;
    private final SavedWays saved;
    private final StampText text;
    private final Row forged;
    private final Night night;
    private final Plan plan;
    private final Reader reader;

    public StampHostels() {
        way = new Way();
        saved = new SavedWays();
        text = new StampText();
        forged = new Row(MAX_TEXT);
        night = new Night();
        plan = new Plan();
        reader = new Reader();
    }

    // ---- hostels, pilgrims, settings

    public int addHostel(int place, int beds, int closing) throws IllegalArgumentException, IllegalStateException {
        if (isOutOfRange(place, 0, MAX_PLACE) || isOutOfRange(beds, 0, MAX_BEDS)
                || isOutOfRange(closing, MIN_CLOSING, MAX_CLOSING)) {
            throw new IllegalArgumentException("place, beds or closing hour out of range");
        }
        if (way.hostelCount >= MAX_HOSTELS || way.isPlaceTaken(place)) {
            throw new IllegalStateException("too many hostels, or one at this place");
        }
        saved.push(way);
        way.hostels[way.hostelCount].begin(place, beds, closing);
        way.hostelCount++;
        return way.hostelCount - 1;
    }

    public int addPilgrim(int hostel, int money)
            throws IndexOutOfBoundsException, IllegalArgumentException, IllegalStateException {
        needHostel(hostel);
        if (isOutOfRange(money, 0, MAX_MONEY)) {
            throw new IllegalArgumentException("money out of range");
        }
        if (way.pilgrimCount >= MAX_PILGRIMS) {
            throw new IllegalStateException("too many pilgrims");
        }
        saved.push(way);
        way.pilgrims[way.pilgrimCount].begin(hostel, money);
        way.pilgrimCount++;
        return way.pilgrimCount - 1;
    }

    public int set(int setting, int value) throws IndexOutOfBoundsException, IllegalArgumentException {
        needSetting(setting);
        if (isOutOfRange(value, LOWEST[setting], GREATEST[setting])) {
            throw new IllegalArgumentException("value out of range");
        }
        saved.push(way);
        int previous = way.settings[setting];
        way.settings[setting] = value;
        return previous;
    }

    // ---- days

    public int walk(int pilgrim, int hostel) throws IndexOutOfBoundsException, IllegalStateException {
        needPilgrim(pilgrim);
        needHostel(hostel);
        if (way.reasonAgainst(pilgrim, hostel) != 0) {
            throw new IllegalStateException("the pilgrim cannot walk to this hostel");
        }
        saved.push(way);
        Pilgrim one = way.pilgrims[pilgrim];
        int distance = way.distance(one.at, hostel);
        int hour = way.arrivalHour(one.weariness, distance);
        one.weariness += way.walkWeariness(distance);
        one.kilometres += distance;
        one.arrive(hostel, hour, way.hostels[hostel].closing);
        return hour;
    }

    public int ride(int pilgrim, int hostel) throws IndexOutOfBoundsException, IllegalStateException {
        needPilgrim(pilgrim);
        needHostel(hostel);
        Pilgrim one = way.pilgrims[pilgrim];
        int price = way.settings[RIDE_PRICE];
        if (one.hasMoved() || one.at == hostel || one.money < price) {
            throw new IllegalStateException("the pilgrim cannot ride to this hostel");
        }
        saved.push(way);
        one.money -= price;
        way.paidForRides += price;
        one.arrive(hostel, RIDE_HOUR, way.hostels[hostel].closing);
        return one.money;
    }

    public int evening() throws IllegalStateException {
        if (way.day >= LAST_DAY) {
            throw new IllegalStateException("the last day has come");
        }
        saved.push(way);
        return night.pass(way);
    }

    // ---- passes and books

    public int lose(int pilgrim) throws IndexOutOfBoundsException {
        needPilgrim(pilgrim);
        saved.push(way);
        Row pass = way.pilgrims[pilgrim].pass;
        int had = pass.size;
        pass.clear();
        return had;
    }

    public int rebuild(int pilgrim) throws IndexOutOfBoundsException {
        needPilgrim(pilgrim);
        saved.push(way);
        Row pass = way.pilgrims[pilgrim].pass;
        pass.clear();
        for (int day = 0; day < way.day; day++) {
            int entered = way.legibleHostel(pilgrim, day);
            if (entered != NONE) {
                pass.add(stampOf(entered, day));
            }
        }
        return pass.size;
    }

    public int blot(int hostel, int day)
            throws IndexOutOfBoundsException, IllegalArgumentException, IllegalStateException {
        needHostel(hostel);
        needPastDay(day);
        int entered = way.pageOf(hostel, day);
        if (entered == NONE) {
            throw new IllegalStateException("the page is blotted");
        }
        saved.push(way);
        way.pages.put(day * MAX_HOSTELS + hostel, NONE);
        return Integer.bitCount(entered);
    }

    // ---- texts

    public int append(int code) throws IllegalArgumentException, IllegalStateException {
        if (isOutOfRange(code, MIN_CODE, MAX_CODE)) {
            throw new IllegalArgumentException("not a character of a text");
        }
        if (text.length >= MAX_TEXT) {
            throw new IllegalStateException("the buffer is full");
        }
        text.put(code);
        return text.length;
    }

    public int clearBuffer() {
        int had = text.length;
        text.length = 0;
        return had;
    }

    public int firstError() {
        return text.goodLength();
    }

    public int forge(int pilgrim) throws IndexOutOfBoundsException, IllegalArgumentException, IllegalStateException {
        needPilgrim(pilgrim);
        if (!text.isComplete()) {
            throw new IllegalArgumentException("the buffer is not a complete list of stamps");
        }
        text.readStamps(forged);
        Row pass = way.pilgrims[pilgrim].pass;
        if (!way.hasHostelsOf(forged) || pass.size + forged.size > MAX_FORGED) {
            throw new IllegalStateException("no such hostel, or too many stamps");
        }
        saved.push(way);
        for (int i = 0; i < forged.size; i++) {
            pass.add(forged.at(i));
        }
        text.length = 0;
        return pass.size;
    }

    public int undo() throws IllegalStateException {
        if (saved.size == 0) {
            throw new IllegalStateException("no saved state");
        }
        saved.pop(way);
        return saved.size;
    }

    // ---- what there is

    public int hostel(int hostel, int what) throws IndexOutOfBoundsException, IllegalArgumentException {
        needHostel(hostel);
        Hostel one = way.hostels[hostel];
        switch (what) {
            case 0:
                return one.place;
            case 1:
                return one.beds;
            case 2:
                return one.closing;
            case 3:
                return one.money;
            case 4:
                return one.nights;
            case 5:
                return way.guests(hostel, false);
            case 6:
                return way.guests(hostel, true);
            case 7:
                return way.legibleEntries(hostel);
            default:
                throw new IllegalArgumentException("no such property of a hostel");
        }
    }

    public int pilgrim(int pilgrim, int what) throws IndexOutOfBoundsException, IllegalArgumentException {
        needPilgrim(pilgrim);
        Pilgrim one = way.pilgrims[pilgrim];
        switch (what) {
            case 0:
                return one.at;
            case 1:
                return one.inside ? 1 : 0;
            case 2:
                return one.money;
            case 3:
                return one.weariness;
            case 4:
                return one.hour;
            case 5:
                return one.pass.size;
            case 6:
                return way.provenDistance(one.pass);
            case 7:
                return way.falseStamps(pilgrim);
            case 8:
                return one.kilometres;
            case 9:
                return one.bedsHad;
            default:
                throw new IllegalArgumentException("no such property of a pilgrim");
        }
    }

    public int stamp(int pilgrim, int stamp, int what) throws IndexOutOfBoundsException, IllegalArgumentException {
        needPilgrim(pilgrim);
        Row pass = way.pilgrims[pilgrim].pass;
        if (isOutOfRange(stamp, 0, pass.size - 1)) {
            throw new IndexOutOfBoundsException("no such stamp");
        }
        int told = pass.at(stamp);
        switch (what) {
            case 0:
                return hostelOf(told);
            case 1:
                return dayOf(told);
            case 2:
                return way.isFalse(pilgrim, told) ? 1 : 0;
            default:
                throw new IllegalArgumentException("a stamp does not tell this");
        }
    }

    public int page(int hostel, int day) throws IndexOutOfBoundsException, IllegalArgumentException {
        needHostel(hostel);
        needPastDay(day);
        return way.pageOf(hostel, day);
    }

    public int count(int what) throws IllegalArgumentException {
        switch (what) {
            case 0:
                return way.hostelCount;
            case 1:
                return way.pilgrimCount;
            case 2:
                return way.day;
            case 3:
                return way.pool;
            case 4:
                return way.moneyOfHostels();
            case 5:
                return way.moneyOfPilgrims();
            case 6:
                return way.allNights();
            case 7:
                return way.allBedsHad();
            case 8:
                return way.allStamps();
            case 9:
                return way.blottedPages();
            case 10:
                return way.paidForRides;
            case 11:
                return saved.size;
            default:
                throw new IllegalArgumentException("no such number");
        }
    }

    public int setting(int setting) throws IndexOutOfBoundsException {
        needSetting(setting);
        return way.settings[setting];
    }

    // ---- what would be; nothing is changed

    public int whyNot(int pilgrim, int hostel) throws IndexOutOfBoundsException {
        needPilgrim(pilgrim);
        needHostel(hostel);
        return way.reasonAgainst(pilgrim, hostel);
    }

    public int bedPlace(int pilgrim) throws IndexOutOfBoundsException {
        needPilgrim(pilgrim);
        return way.placeForBed(pilgrim);
    }

    public int fewestDays(int pilgrim, int hostel, int what)
            throws IndexOutOfBoundsException, IllegalArgumentException {
        needPilgrim(pilgrim);
        needHostel(hostel);
        if (isOutOfRange(what, 0, 1)) {
            throw new IllegalArgumentException("neither the days nor the first hostel");
        }
        plan.make(way, pilgrim);
        return what == 0 ? plan.daysTo(hostel) : plan.firstTo(hostel);
    }

    public int readings(int pilgrim, int from, int to) throws IndexOutOfBoundsException, IllegalArgumentException {
        needPilgrim(pilgrim);
        needPastDay(from);
        needPastDay(to);
        if (isOutOfRange(to, from, from + MAX_READ_DAYS - 1)) {
            throw new IllegalArgumentException("days out of range");
        }
        return reader.waysToRead(way, pilgrim, from, to);
    }

    public int alike(int pilgrim) throws IndexOutOfBoundsException {
        needPilgrim(pilgrim);
        Row pass = way.pilgrims[pilgrim].pass;
        int same = 0;
        for (int day = 0; day < way.day && same < pass.size; day++) {
            int entered = way.legibleHostel(pilgrim, day);
            if (entered != NONE) {
                if (pass.at(same) != stampOf(entered, day)) {
                    return same;
                }
                same++;
            }
        }
        return same;
    }

    public double meanWeariness() {
        if (way.pilgrimCount == 0) {
            return 0.0;
        }
        int sum = 0;
        for (int i = 0; i < way.pilgrimCount; i++) {
            sum += way.pilgrims[i].weariness;
        }
        return (double) sum / (double) way.pilgrimCount;
    }

    public long digest() {
        Hash hash = new Hash();
        for (int what = 0; what <= 11; what++) {
            hash.mix(count(what));
        }
        for (int i = 0; i < SETTINGS; i++) {
            hash.mix(way.settings[i]);
        }
        for (int i = 0; i < way.hostelCount; i++) {
            mixHostel(hash, i);
        }
        for (int i = 0; i < way.pilgrimCount; i++) {
            mixPilgrim(hash, i);
        }
        hash.mix(bitsOf(meanWeariness()));
        hash.mix(text.length);
        for (int i = 0; i < text.length; i++) {
            hash.mix(text.codeAt(i));
        }
        return hash.value;
    }

    private void mixHostel(Hash hash, int hostel) {
        for (int what = 0; what <= 7; what++) {
            hash.mix(hostel(hostel, what));
        }
        for (int day = Math.max(0, way.day - SHOWN_LAST); day < way.day; day++) {
            hash.mix(way.pageOf(hostel, day));
        }
    }

    private void mixPilgrim(Hash hash, int pilgrim) {
        for (int what = 0; what <= 9; what++) {
            hash.mix(pilgrim(pilgrim, what));
        }
        hash.mix(way.placeForBed(pilgrim));
        hash.mix(alike(pilgrim));
        plan.make(way, pilgrim);
        for (int i = 0; i < way.hostelCount; i++) {
            hash.mix(way.reasonAgainst(pilgrim, i));
            hash.mix(plan.daysTo(i));
            hash.mix(plan.firstTo(i));
        }
        int stamps = way.pilgrims[pilgrim].pass.size;
        for (int i = Math.max(0, stamps - SHOWN_LAST); i < stamps; i++) {
            hash.mix(stamp(pilgrim, i, 0));
            hash.mix(stamp(pilgrim, i, 1));
            hash.mix(stamp(pilgrim, i, 2));
        }
    }

    // ---- what arguments must be

    private void needHostel(int hostel) throws IndexOutOfBoundsException {
        if (isOutOfRange(hostel, 0, way.hostelCount - 1)) {
            throw new IndexOutOfBoundsException("no such hostel");
        }
    }

    private void needPilgrim(int pilgrim) throws IndexOutOfBoundsException {
        if (isOutOfRange(pilgrim, 0, way.pilgrimCount - 1)) {
            throw new IndexOutOfBoundsException("no such pilgrim");
        }
    }

    private void needPastDay(int day) throws IllegalArgumentException {
        if (isOutOfRange(day, 0, way.day - 1)) {
            throw new IllegalArgumentException("day out of range");
        }
    }

    private static void needSetting(int setting) throws IndexOutOfBoundsException {
        if (isOutOfRange(setting, 0, SETTINGS - 1)) {
            throw new IndexOutOfBoundsException("no such setting");
        }
    }

    private static boolean isOutOfRange(int value, int lowest, int greatest) {
        return value < lowest || value > greatest;
    }

    // ---- stamps as numbers: a pass then is one row

    private static int stampOf(int hostel, int day) {
        return day * MAX_HOSTELS + hostel;
    }

    private static int hostelOf(int stamp) {
        return stamp % MAX_HOSTELS;
    }

    private static int dayOf(int stamp) {
        return stamp / MAX_HOSTELS;
    }

    /** The bits of a double from 0 to MAX_WEARINESS, by hand: LANGUAGE.md lists no function for them. */
    private static long bitsOf(double mean) {
        if (mean <= 0.0) {
            return 0L;
        }
        double fraction = mean;
        long exponent = 1023L;
        for (int i = 0; i < 1100 && fraction >= 2.0; i++) {
            fraction = fraction / 2.0;
            exponent++;
        }
        for (int i = 0; i < 1100 && fraction < 1.0; i++) {
            fraction = fraction * 2.0;
            exponent--;
        }
        return (exponent << 52) + (long) ((fraction - 1.0) * (double) (1L << 52));
    }

    /** The hash of a digest while it is computed. */
    private static final class Hash {
        long value = 2347L;

        void mix(long next) {
            value = 31L * value + next;
        }
    }

    /** A row of numbers that grows up to a limit, beyond which it refuses more. */
    private static final class Row {
        private static final int SIZE_AT_FIRST = 16;

        final int limit;
        int[] cells;
        int size;

        Row(int limit) {
            this.limit = limit;
            cells = new int[SIZE_AT_FIRST];
        }

        void clear() {
            size = 0;
        }

        void add(int value) {
            if (size >= limit) {
                return;
            }
            if (size >= cells.length) {
                cells = Arrays.copyOf(cells, 2 * size + 1);
            }
            cells[size] = value;
            size++;
        }

        /** 0 beyond the end, so that a page of a day that has not come is an empty one. */
        int at(int index) {
            return index < 0 || index >= size ? 0 : cells[index];
        }

        void put(int index, int value) {
            if (index >= 0 && index < size) {
                cells[index] = value;
            }
        }

        void takeFrom(Row other) {
            if (cells.length < other.size) {
                cells = new int[other.cells.length];
            }
            System.arraycopy(other.cells, 0, cells, 0, other.size);
            size = other.size;
        }
    }

    private static final class Hostel {
        int place;
        int beds;
        int closing;
        int money;
        int nights;

        void begin(int newPlace, int newBeds, int newClosing) {
            place = newPlace;
            beds = newBeds;
            closing = newClosing;
            money = 0;
            nights = 0;
        }

        void takeFrom(Hostel other) {
            place = other.place;
            beds = other.beds;
            closing = other.closing;
            money = other.money;
            nights = other.nights;
        }
    }

    /** A pilgrim; an hour of 0 tells that the pilgrim neither walked nor rode on this day. */
    private static final class Pilgrim {
        int at;
        boolean inside;
        int money;
        int weariness;
        int hour;
        int kilometres;
        int bedsHad;
        final Row pass = new Row(MAX_STAMPS);

        void begin(int hostel, int newMoney) {
            at = hostel;
            inside = true;
            money = newMoney;
            weariness = 0;
            hour = 0;
            kilometres = 0;
            bedsHad = 0;
            pass.clear();
        }

        boolean hasMoved() {
            return hour != 0;
        }

        boolean isInsideAt(int hostel) {
            return inside && at == hostel;
        }

        void arrive(int hostel, int atHour, int closing) {
            at = hostel;
            hour = atHour;
            inside = atHour <= closing;
        }

        void takeFrom(Pilgrim other) {
            at = other.at;
            inside = other.inside;
            money = other.money;
            weariness = other.weariness;
            hour = other.hour;
            kilometres = other.kilometres;
            bedsHad = other.bedsHad;
            pass.takeFrom(other.pass);
        }
    }

    /** All that undo restores, with the rules that tell something of it alone. */
    private static final class Way {
        int hostelCount;
        int pilgrimCount;
        int day;
        int pool;
        int paidForRides;
        final int[] settings = Arrays.copyOf(AT_FIRST, SETTINGS);
        final Hostel[] hostels = new Hostel[MAX_HOSTELS];
        final Pilgrim[] pilgrims = new Pilgrim[MAX_PILGRIMS];

        /** MAX_HOSTELS pages for each day that has passed, also for hostels to come: a bit mask, NONE if blotted. */
        final Row pages = new Row(MAX_PAGES);

        Way() {
            for (int i = 0; i < MAX_HOSTELS; i++) {
                hostels[i] = new Hostel();
            }
            for (int i = 0; i < MAX_PILGRIMS; i++) {
                pilgrims[i] = new Pilgrim();
            }
        }

        void takeFrom(Way other) {
            hostelCount = other.hostelCount;
            pilgrimCount = other.pilgrimCount;
            day = other.day;
            pool = other.pool;
            paidForRides = other.paidForRides;
            System.arraycopy(other.settings, 0, settings, 0, SETTINGS);
            for (int i = 0; i < hostelCount; i++) {
                hostels[i].takeFrom(other.hostels[i]);
            }
            for (int i = 0; i < pilgrimCount; i++) {
                pilgrims[i].takeFrom(other.pilgrims[i]);
            }
            pages.takeFrom(other.pages);
        }

        boolean isPlaceTaken(int place) {
            for (int i = 0; i < hostelCount; i++) {
                if (hostels[i].place == place) {
                    return true;
                }
            }
            return false;
        }

        int distance(int one, int other) {
            int further = hostels[one].place - hostels[other].place;
            return further < 0 ? -further : further;
        }

        int walkWeariness(int distance) {
            return distance * settings[WALK_WEARINESS] / 10;
        }

        int arrivalHour(int weariness, int distance) {
            int speed = 6 - weariness / 20;
            // never less than 1, for no weariness is above 100; but a divisor is looked at
            int hours = speed > 1 ? (distance + speed - 1) / speed : distance;
            return settings[SET_OUT] + hours;
        }

        /** 0 if the pilgrim can walk to the hostel, otherwise the first reason against it. */
        int reasonAgainst(int pilgrim, int hostel) {
            Pilgrim one = pilgrims[pilgrim];
            if (one.hasMoved()) {
                return 1;
            }
            if (one.at == hostel) {
                return 2;
            }
            int distance = distance(one.at, hostel);
            if (distance > settings[LONGEST_WAY]) {
                return 3;
            }
            return one.weariness + walkWeariness(distance) > MAX_WEARINESS ? 4 : 0;
        }

        /** The weariness on the morning behind a night inside, with this rest, or outside. */
        int wearinessBehind(int weariness, boolean inside, int rest) {
            if (inside) {
                return weariness > rest ? weariness - rest : 0;
            }
            int more = weariness + OUTSIDE_WEARINESS;
            return more < MAX_WEARINESS ? more : MAX_WEARINESS;
        }

        /** The weariness on the morning behind a walk, with a bed for one who comes in time; NONE if it cannot be. */
        int wearinessBehindWalk(int from, int to, int weariness) {
            int distance = distance(from, to);
            int then = weariness + walkWeariness(distance);
            if (from == to || distance > settings[LONGEST_WAY] || then > MAX_WEARINESS) {
                return NONE;
            }
            boolean inside = arrivalHour(weariness, distance) <= hostels[to].closing;
            return wearinessBehind(then, inside, settings[BED_REST]);
        }

        /** The place among those who are inside the same hostel, NONE for one who is outside. */
        int placeForBed(int pilgrim) {
            Pilgrim one = pilgrims[pilgrim];
            if (!one.inside) {
                return NONE;
            }
            int ahead = 0;
            for (int i = 0; i < pilgrimCount; i++) {
                if (pilgrims[i].isInsideAt(one.at) && isAhead(i, pilgrim)) {
                    ahead++;
                }
            }
            return ahead;
        }

        boolean isAhead(int first, int second) {
            Pilgrim one = pilgrims[first];
            Pilgrim other = pilgrims[second];
            if (one.weariness != other.weariness) {
                return one.weariness > other.weariness;
            }
            return one.hour != other.hour ? one.hour < other.hour : first < second;
        }

        int pageOf(int hostel, int ofDay) {
            return pages.at(ofDay * MAX_HOSTELS + hostel);
        }

        private static boolean isLegible(int pilgrim, int entered) {
            return entered != NONE && (entered >> pilgrim & 1) == 1;
        }

        /** The hostel on whose page for the day the pilgrim can be read, or NONE. */
        int legibleHostel(int pilgrim, int ofDay) {
            for (int i = 0; i < hostelCount; i++) {
                if (isLegible(pilgrim, pageOf(i, ofDay))) {
                    return i;
                }
            }
            return NONE;
        }

        int legibleEntries(int hostel) {
            int entries = 0;
            for (int i = 0; i < day; i++) {
                int entered = pageOf(hostel, i);
                entries += entered == NONE ? 0 : Integer.bitCount(entered);
            }
            return entries;
        }

        int blottedPages() {
            int blotted = 0;
            for (int i = 0; i < pages.size; i++) {
                if (pages.at(i) == NONE) {
                    blotted++;
                }
            }
            return blotted;
        }

        boolean isFalse(int pilgrim, int stamp) {
            int entered = pageOf(hostelOf(stamp), dayOf(stamp));
            return entered != NONE && !isLegible(pilgrim, entered);
        }

        int falseStamps(int pilgrim) {
            Row pass = pilgrims[pilgrim].pass;
            int wrong = 0;
            for (int i = 0; i < pass.size; i++) {
                if (isFalse(pilgrim, pass.at(i))) {
                    wrong++;
                }
            }
            return wrong;
        }

        int provenDistance(Row pass) {
            int sum = 0;
            for (int i = 1; i < pass.size; i++) {
                int days = dayOf(pass.at(i)) - dayOf(pass.at(i - 1));
                int distance = distance(hostelOf(pass.at(i - 1)), hostelOf(pass.at(i)));
                if (days > 0 && distance <= settings[LONGEST_WAY] * days) {
                    sum += distance;
                }
            }
            return sum;
        }

        boolean hasHostelsOf(Row stamps) {
            for (int i = 0; i < stamps.size; i++) {
                if (hostelOf(stamps.at(i)) >= hostelCount) {
                    return false;
                }
            }
            return true;
        }

        int guests(int hostel, boolean insideAlone) {
            int guests = 0;
            for (int i = 0; i < pilgrimCount; i++) {
                if (pilgrims[i].at == hostel && (pilgrims[i].inside || !insideAlone)) {
                    guests++;
                }
            }
            return guests;
        }

        int moneyOfHostels() {
            int sum = 0;
            for (int i = 0; i < hostelCount; i++) {
                sum += hostels[i].money;
            }
            return sum;
        }

        int moneyOfPilgrims() {
            int sum = 0;
            for (int i = 0; i < pilgrimCount; i++) {
                sum += pilgrims[i].money;
            }
            return sum;
        }

        int allNights() {
            int sum = 0;
            for (int i = 0; i < hostelCount; i++) {
                sum += hostels[i].nights;
            }
            return sum;
        }

        int allBedsHad() {
            int sum = 0;
            for (int i = 0; i < pilgrimCount; i++) {
                sum += pilgrims[i].bedsHad;
            }
            return sum;
        }

        int allStamps() {
            int sum = 0;
            for (int i = 0; i < pilgrimCount; i++) {
                sum += pilgrims[i].pass.size;
            }
            return sum;
        }
    }

    /** The saved states, the latest one last; all are made at first and used again. */
    private static final class SavedWays {
        final Way[] ways = new Way[MAX_SAVED];
        int size;

        SavedWays() {
            for (int i = 0; i < MAX_SAVED; i++) {
                ways[i] = new Way();
            }
        }

        void push(Way way) {
            if (size >= MAX_SAVED) {
                dropOldest();
            }
            ways[size].takeFrom(way);
            size++;
        }

        void pop(Way way) {
            if (size > 0) {
                size--;
                way.takeFrom(ways[size]);
            }
        }

        private void dropOldest() {
            Way oldest = ways[0];
            for (int i = 1; i < MAX_SAVED; i++) {
                ways[i - 1] = ways[i];
            }
            ways[MAX_SAVED - 1] = oldest;
            size = MAX_SAVED - 1;
        }
    }

    /** The buffer, and what its characters mean. */
    private static final class StampText {
        private static final int BROKEN = -1;
        private static final int AHEAD_OF_STAMP = 0;
        private static final int BEHIND_LETTER = 1;
        private static final int BEHIND_ONE_DIGIT = 2;
        private static final int BEHIND_TWO_DIGITS = 3;
        private static final int BEHIND_LAST_DIGIT = 4;

        final int[] codes = new int[MAX_TEXT];
        int length;

        void put(int code) {
            if (length < MAX_TEXT) {
                codes[length] = code;
                length++;
            }
        }

        int codeAt(int index) {
            return index < 0 || index >= MAX_TEXT ? 0 : codes[index];
        }

        /** How many characters there are ahead of the first syntax error. */
        int goodLength() {
            int state = AHEAD_OF_STAMP;
            for (int i = 0; i < length; i++) {
                state = behind(state, codeAt(i));
                if (state == BROKEN) {
                    return i;
                }
            }
            return length;
        }

        boolean isComplete() {
            int state = AHEAD_OF_STAMP;
            for (int i = 0; i < length && state != BROKEN; i++) {
                state = behind(state, codeAt(i));
            }
            return state >= BEHIND_ONE_DIGIT;
        }

        /** Puts the stamps of a complete list into a row. */
        void readStamps(Row stamps) {
            stamps.clear();
            int hostel = 0;
            int day = 0;
            for (int i = 0; i < length; i++) {
                int code = codeAt(i);
                if (isDigit(code)) {
                    day = 10 * day + code - '0';
                } else if (isLetter(code)) {
                    hostel = code - 'a';
                    day = 0;
                } else {
                    stamps.add(stampOf(hostel, day));
                }
            }
            stamps.add(stampOf(hostel, day));
        }

        private static int behind(int state, int code) {
            if (state == AHEAD_OF_STAMP) {
                return isLetter(code) ? BEHIND_LETTER : BROKEN;
            }
            if (isDigit(code)) {
                return behindDigit(state, code);
            }
            return code == ',' && state != BEHIND_LETTER ? AHEAD_OF_STAMP : BROKEN;
        }

        private static int behindDigit(int state, int code) {
            switch (state) {
                case BEHIND_LETTER:
                    // a number that begins with 0 is 0: no digit may come behind it
                    return code == '0' ? BEHIND_LAST_DIGIT : BEHIND_ONE_DIGIT;
                case BEHIND_ONE_DIGIT:
                    return BEHIND_TWO_DIGITS;
                case BEHIND_TWO_DIGITS:
                    return BEHIND_LAST_DIGIT;
                default:
                    return BROKEN;
            }
        }

        private static boolean isLetter(int code) {
            return code >= 'a' && code <= 'j';
        }

        private static boolean isDigit(int code) {
            return code >= '0' && code <= '9';
        }
    }

    /** An evening, up to the next morning. */
    private static final class Night {
        final int[] places = new int[MAX_PILGRIMS];
        final int[] remainders = new int[MAX_HOSTELS];

        int pass(Way way) {
            findPlaces(way);
            writePages(way);
            int given = 0;
            for (int i = 0; i < way.pilgrimCount; i++) {
                if (sleep(way, i)) {
                    given++;
                }
            }
            way.day++;
            if (way.day % DAYS_OF_A_ROUND == 0) {
                sharePool(way);
            }
            wakeAll(way);
            return given;
        }

        /** All places are found ahead of all sleep, which changes the weariness that orders them. */
        private void findPlaces(Way way) {
            for (int i = 0; i < way.pilgrimCount; i++) {
                places[i] = way.placeForBed(i);
            }
        }

        private void writePages(Way way) {
            for (int hostel = 0; hostel < MAX_HOSTELS; hostel++) {
                int entered = 0;
                for (int i = 0; i < way.pilgrimCount; i++) {
                    if (way.pilgrims[i].isInsideAt(hostel)) {
                        entered |= 1 << i;
                    }
                }
                way.pages.add(entered);
            }
        }

        /** Tells whether the pilgrim gets a bed. */
        private boolean sleep(Way way, int pilgrim) {
            Pilgrim one = way.pilgrims[pilgrim];
            Hostel host = way.hostels[one.at];
            boolean getsBed = one.inside && places[pilgrim] < host.beds;
            int rest = way.settings[getsBed ? BED_REST : FLOOR_REST];
            one.weariness = way.wearinessBehind(one.weariness, one.inside, rest);
            if (one.inside) {
                one.pass.add(stampOf(one.at, way.day));
            }
            if (getsBed) {
                one.bedsHad++;
                host.nights++;
                int gift = Math.min(way.settings[DONATION], one.money);
                one.money -= gift;
                way.pool += gift;
            }
            return getsBed;
        }

        private void sharePool(Way way) {
            int nights = way.allNights();
            if (nights <= 0) {
                return;
            }
            int left = way.pool;
            for (int i = 0; i < way.hostelCount; i++) {
                Hostel host = way.hostels[i];
                int share = way.pool * host.nights / nights;
                remainders[i] = way.pool * host.nights % nights;
                host.money += share;
                left -= share;
                host.nights = 0;
            }
            for (int i = 0; i < way.hostelCount && i < left; i++) {
                giveUnit(way);
            }
            way.pool = 0;
        }

        private void giveUnit(Way way) {
            int best = 0;
            for (int i = 1; i < way.hostelCount; i++) {
                if (remainders[i] > remainders[best]) {
                    best = i;
                }
            }
            way.hostels[best].money++;
            remainders[best] = NONE;
        }

        private void wakeAll(Way way) {
            for (int i = 0; i < way.pilgrimCount; i++) {
                way.pilgrims[i].inside = true;
                way.pilgrims[i].hour = 0;
            }
        }
    }

    /**
     * In how few days a pilgrim could be at each hostel. Of two who wake at the same hostel on the same day, the less
     * weary one can do all that the other one can, so for each hostel the least weariness is enough to know. But the
     * first hostel must be the lowest one of all rows, so each beginning is followed alone, in the order of hostels.
     */
    private static final class Plan {
        final int[] days = new int[MAX_HOSTELS];
        final int[] firsts = new int[MAX_HOSTELS];
        final int[] waking = new int[MAX_HOSTELS];
        final int[] wakingNext = new int[MAX_HOSTELS];

        void make(Way way, int pilgrim) {
            Pilgrim one = way.pilgrims[pilgrim];
            Arrays.fill(days, MAX_PLANNED_DAYS + 1);
            Arrays.fill(firsts, NONE);
            days[one.at] = 0;
            for (int i = 0; i < way.hostelCount; i++) {
                if (i == one.at) {
                    follow(way, i, way.wearinessBehind(one.weariness, one.inside, way.settings[BED_REST]));
                } else if (way.reasonAgainst(pilgrim, i) == 0) {
                    note(i, 1, i);
                    follow(way, i, way.wearinessBehindWalk(one.at, i, one.weariness));
                }
            }
        }

        int daysTo(int hostel) {
            return days[hostel] > MAX_PLANNED_DAYS ? NONE : days[hostel];
        }

        int firstTo(int hostel) {
            return firsts[hostel];
        }

        private void note(int hostel, int day, int first) {
            if (day < days[hostel]) {
                days[hostel] = day;
                firsts[hostel] = first;
            }
        }

        /** Lives on from the morning of the second day, as long as a day may bring something new. */
        private void follow(Way way, int first, int weariness) {
            Arrays.fill(waking, NONE);
            waking[first] = weariness;
            boolean goesOn = mayBeEarlier(way, 2);
            for (int day = 2; day <= MAX_PLANNED_DAYS && goesOn; day++) {
                liveOneDay(way, first, day);
                goesOn = mayBeEarlier(way, day + 1) && isAnotherMorning(way);
                System.arraycopy(wakingNext, 0, waking, 0, MAX_HOSTELS);
            }
        }

        private boolean mayBeEarlier(Way way, int day) {
            for (int i = 0; i < way.hostelCount; i++) {
                if (days[i] > day) {
                    return true;
                }
            }
            return false;
        }

        /** If the next morning is as this one was, no later day brings anything new. */
        private boolean isAnotherMorning(Way way) {
            for (int i = 0; i < way.hostelCount; i++) {
                if (waking[i] != wakingNext[i]) {
                    return true;
                }
            }
            return false;
        }

        private void liveOneDay(Way way, int first, int day) {
            Arrays.fill(wakingNext, NONE);
            for (int from = 0; from < way.hostelCount; from++) {
                if (waking[from] == NONE) {
                    continue;
                }
                wakeAt(from, way.wearinessBehind(waking[from], true, way.settings[BED_REST]));
                for (int to = 0; to < way.hostelCount; to++) {
                    int weariness = way.wearinessBehindWalk(from, to, waking[from]);
                    if (weariness != NONE) {
                        note(to, day, first);
                        wakeAt(to, weariness);
                    }
                }
            }
        }

        private void wakeAt(int hostel, int weariness) {
            if (wakingNext[hostel] == NONE || weariness < wakingNext[hostel]) {
                wakingNext[hostel] = weariness;
            }
        }
    }

    /** Counts the ways in which blotted pages could be read. */
    private static final class Reader {
        final int[] rows = new int[MAX_HOSTELS];
        final int[] longerRows = new int[MAX_HOSTELS];

        int waysToRead(Way way, int pilgrim, int from, int to) {
            for (int i = 0; i < way.hostelCount; i++) {
                rows[i] = couldBe(way, pilgrim, i, from) ? 1 : 0;
            }
            for (int day = from + 1; day <= to; day++) {
                addDay(way, pilgrim, day);
            }
            int sum = 0;
            for (int i = 0; i < way.hostelCount; i++) {
                sum = Math.min(MAX_READINGS, sum + rows[i]);
            }
            return sum;
        }

        private boolean couldBe(Way way, int pilgrim, int hostel, int day) {
            int known = way.legibleHostel(pilgrim, day);
            return known == NONE ? way.pageOf(hostel, day) == NONE : known == hostel;
        }

        private void addDay(Way way, int pilgrim, int day) {
            for (int i = 0; i < way.hostelCount; i++) {
                longerRows[i] = couldBe(way, pilgrim, i, day) ? rowsInReach(way, i) : 0;
            }
            System.arraycopy(longerRows, 0, rows, 0, way.hostelCount);
        }

        /** Cut off at the greatest answer: a number that is cut off can only lead to 0 or to that answer. */
        private int rowsInReach(Way way, int hostel) {
            int sum = 0;
            for (int i = 0; i < way.hostelCount; i++) {
                if (way.distance(i, hostel) <= way.settings[LONGEST_WAY]) {
                    sum = Math.min(MAX_READINGS, sum + rows[i]);
                }
            }
            return sum;
        }
    }
}
