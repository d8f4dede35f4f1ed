/** Valleys that the tests of bounds begin with. */
final class Valleys {
    private Valleys() { }

    static RopeToALake bare() {
        return new RopeToALake();
    }

    /** So many farms of ten arms, and nothing else. */
    static RopeToALake withFarms(int n) {
        RopeToALake x = new RopeToALake();
        for (int i = 0; i < n; i++) {
            need(x.farm(10, 0, 0, 0) == i);
        }
        return x;
    }

    /** One farm of so many arms whose turn is every hour, on a ring of so many notches, with a full lake. */
    static RopeToALake pulled(int notches, int arms) {
        RopeToALake x = new RopeToALake();
        need(x.notches(notches));
        need(x.farm(arms, 0, 0, 0) == 0);
        need(x.tell(6, 0, 100000));
        allTurns(x, 0);
        return x;
    }

    static void allTurns(RopeToALake x, int farm) {
        for (int h = 0; h < 24; h++) {
            need(x.turn(h, farm));
        }
    }

    /** Something of all there is, and room for more: five hours kept, eight bytes on the tape, a fault, an image. */
    static RopeToALake busy() {
        RopeToALake x = new RopeToALake();
        need(x.notches(14));
        need(x.tell(6, 0, 5000));
        need(x.bucket(0, 20, 1) == 0);
        need(x.bucket(13, 30, 2) == 1);
        need(x.bucket(5, 40, 0) == 2);
        need(x.farm(30, 1, 1, 40) == 0);
        need(x.farm(25, 2, 0, 60) == 1);
        need(x.farm(12, 0, 2, 0) == 2);
        need(x.splice(9000, 1, 10) == 0);
        need(x.splice(9000, 0, 20) == 1);
        need(x.tell(5, 1, 0));
        need(x.tell(5, 2, 2));
        need(x.tell(5, 9, 1));
        for (int h = 0; h < 24; h++) {
            need(x.turn(h, h % 4 - 1));
        }
        need(x.absent(0, 0, 1));
        need(x.absent(2, 1, 0));
        need(x.foes(0, 1, true));
        need(x.log(0, 20));
        need(x.log(1, 0));
        need(x.tell(7, 0, 5));
        need(x.tell(8, 0, 500));
        law(x, "share pulled+1 when dry<2; share wet;");
        x.hours(20);
        need(x.image(true));
        x.hours(27);
        need(x.tell(8, 0, 400));
        x.hours(5);
        feedBusy(x);
        need(x.look(10) == 5);
        need(x.look(2) > 0);
        need(x.of(0, 6) > 0);
        return x;
    }

    /** The fault and the tape of a busy valley. */
    static void feedBusy(RopeToALake x) {
        put(x, "share ?");
        need(x.text() == -1);
        put(x, "share 7;");
    }

    /** As much of all there is as can be: no bucket, farm, splice, absence, log or byte has room any more. */
    static RopeToALake full() {
        RopeToALake x = new RopeToALake();
        need(x.notches(40));
        need(x.tell(6, 0, 9999999));
        for (int i = 0; i < 10; i++) {
            need(x.bucket(39 - 4 * i, 99 - i, i) == i);
        }
        for (int i = 0; i < 9; i++) {
            need(x.farm(60, i % 3, 1, 9000 + 40 * i) == i);
        }
        for (int i = 0; i < 8; i++) {
            need(x.splice(99999 - i, 1 + i, 10 * i + 1) == i);
        }
        for (int p = 1; p < 40; p++) {
            need(x.tell(5, p, (p - 1) % 9) == (p != 20));
        }
        for (int h = 0; h < 24; h++) {
            need(x.turn(h, h % 9));
        }
        for (int i = 0; i < 30; i++) {
            need(x.absent(6 + i % 3, i / 3, 3 + i % 3));
        }
        for (int i = 0; i < 40; i++) {
            need(x.log(i % 9, 20 + i % 9));
        }
        need(x.tell(7, 0, 60));
        need(x.tell(8, 0, 300));
        law(x, lines(15) + "share drops/99+farm;");
        need(x.look(12) == 16);
        x.hours(25);
        need(x.image(true));
        x.hours(50);
        need(x.look(10) == 8);
        need(x.of(0, 6) > 0);
        need(x.of(0, 8) > 0);
        feedFull(x);
        return x;
    }

    /** The tape of a full valley, which has no fault. */
    static void feedFull(RopeToALake x) {
        put(x, "share 1;" + " ".repeat(391) + "\n");
    }

    /** So many lines that are never so. */
    static String lines(int n) {
        return "share 1 when 1=2;".repeat(n);
    }

    /** Puts a text behind the tape; what the last call has too much is cut off. */
    static void put(RopeToALake x, String text) {
        int behind = 0;
        for (int i = 0; i < text.length(); i += 20) {
            int[] n = new int[5];
            for (int k = 0; k < 20; k++) {
                n[k / 4] = n[k / 4] << 8 | (i + k < text.length() ? text.charAt(i + k) : 0);
            }
            behind = x.feed(n[0], n[1], n[2], n[3], n[4]);
            need(behind > 0);
        }
        need(x.end(behind - (20 - text.length() % 20) % 20));
    }

    static void law(RopeToALake x, String text) {
        put(x, text);
        need(x.text() >= 0);
    }

    /** What a valley is made by must go well, or its test tests something else. */
    static void need(boolean good) {
        if (!good) {
            throw new IllegalStateException("a valley could not be made");
        }
    }
}
