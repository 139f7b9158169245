/** Promises 27 and 28: the mean weariness and the digest, and what the digest must tell apart. */
final class DigestTest {
    private DigestTest() {
    }

    private static long hash(long... values) {
        long hash = 2347;
        for (long value : values) {
            hash = 31 * hash + value;
        }
        return hash;
    }

    private static void smallOnes() {
        StampHostels made = new StampHostels();
        Script.due("digest of a new object", made.digest(),
                hash(0, 0, 0, 0, 0, 0, 0, 0, 0, 0, 0, 0, 40, 5, 7, 40, 10, 8, 10, 0, 0));
        made.append(97);
        made.append(126);
        Script.due("digest with a buffer", made.digest(),
                hash(0, 0, 0, 0, 0, 0, 0, 0, 0, 0, 0, 0, 40, 5, 7, 40, 10, 8, 10, 0, 2, 97, 126));
        made.clearBuffer();
        made.addHostel(7, 1, 20);
        Script.due("digest with a hostel", made.digest(),
                hash(1, 0, 0, 0, 0, 0, 0, 0, 0, 0, 0, 1, 40, 5, 7, 40, 10, 8, 10, 7, 1, 20, 0, 0, 0, 0, 0, 0, 0));
        made.addPilgrim(0, 9);
        made.evening();
        Script.due("digest with a pilgrim", made.digest(),
                hash(1, 1, 1, 5, 0, 4, 1, 1, 1, 0, 0, 3, 40, 5, 7, 40, 10, 8, 10,
                        7, 1, 20, 0, 1, 1, 1, 1, 1,
                        0, 1, 4, 0, 0, 1, 0, 0, 0, 1, 0, 1, 2, 0, -1, 0, 0, 0,
                        0, 0));
    }

    /** Each mean from 0 to 100 of up to 8 pilgrims: its bits are in the digest. */
    private static void bitsOfMeans() {
        for (int pilgrims = 1; pilgrims <= 8; pilgrims++) {
            StampHostels program = new StampHostels();
            Model model = new Model();
            program.addHostel(0, 0, 8);
            model.addHostel(0, 0, 8);
            program.addHostel(5, 0, 8);
            model.addHostel(5, 0, 8);
            program.set(2, 12);
            model.set(2, 12);
            program.set(4, 0);
            model.set(4, 0);
            for (int i = 0; i < pilgrims; i++) {
                program.addPilgrim(0, 0);
                model.addPilgrim(0, 0);
            }
            for (int day = 0; day < 11; day++) {
                for (int i = 0; i < pilgrims; i++) {
                    if (program.whyNot(i, (day + 1) % 2) == 0) {
                        program.set(5, 1 + (day + i) % 20);
                        model.set(5, 1 + (day + i) % 20);
                        if (program.whyNot(i, (day + 1) % 2) == 0) {
                            program.walk(i, (day + 1) % 2);
                            model.walk(i, (day + 1) % 2);
                        }
                    }
                    Script.due("meanWeariness", program.meanWeariness(), model.meanWeariness());
                    Script.due("digest", program.digest(), model.digest());
                }
                program.evening();
                model.evening();
            }
        }
    }

    private static void lastSeven() {
        StampHostels program = new StampHostels();
        Model model = new Model();
        program.addHostel(0, 0, 8);
        model.addHostel(0, 0, 8);
        program.addPilgrim(0, 0);
        model.addPilgrim(0, 0);
        for (int day = 0; day < 20; day++) {
            program.evening();
            model.evening();
            if (day % 3 == 0) {
                program.blot(0, day);
                model.blot(0, day);
            }
            Script.due("digest behind day " + day, program.digest(), model.digest());
        }
    }

    public static void main(String[] arguments) {
        smallOnes();
        bitsOfMeans();
        lastSeven();
        Script.end();
    }
}
