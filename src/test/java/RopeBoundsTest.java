import java.util.List;
import java.util.function.Consumer;
import java.util.function.Supplier;

/** The bounds that part 1 of the Terms and the promises 1 to 11, 18 and 19 name, a test for each sentence. */
public final class RopeBoundsTest {
    private static final int NONE = Bounds.NONE;
    private static final int NO_SUCH = Bounds.NO_SUCH;
    private static final int MIN = Bounds.MIN;
    private static final int MAX = Bounds.MAX;

    public static void main(String[] args) {
        newObject();
        none();
        lastCall();
        stateAtFirst();
        stateTold();
        notches();
        notchesRefused();
        notchesAnew();
        lakeAndTrough();
        placesGoRound();
        bucketNumbers();
        bucketNotches();
        bucketNotchTaken();
        bucketSizes();
        bucketHoles();
        bucketsEmptyAtFirst();
        bucketRefused();
        lakeTold();
        lakeOfAFullValley();
        troughNotTold();
        farmNumbers();
        farmTraits();
        farmTraitsToldLater();
        farmRefused();
        fields();
        fieldFarms();
        tellRefused();
        tellIndexNotAsked();
        spliceNumbers();
        spliceNumbersOfEach();
        spliceRefused();
        spliceOfNoStrength();
        mending();
        mendRefused();
        frostTold();
        coldTold();
        turns();
        turnRefused();
        absentAtMost();
        absentOnce();
        absentRefused();
        foesTold();
        pails();
        parts();
        Bounds.end();
    }

    private static void newObject() {
        Bounds.sentence("A rope of twelve notches, nobody there.");
        RopeToALake x = new RopeToALake();
        Bounds.due("look(0)", x.look(0), 12);
        for (int w = 1; w <= 15; w++) {
            Bounds.due("look(" + w + ")", x.look(w), 0);
        }
        for (int h = 0; h < 24; h++) {
            Bounds.due("look(" + (20 + h) + ")", x.look(20 + h), NONE);
        }
        for (int p = 0; p < 12; p++) {
            Bounds.due("look(" + (50 + p) + ")", x.look(50 + p), NONE);
        }
        Bounds.due("of(0, 0)", x.of(0, 0), NO_SUCH);
        Bounds.due("pail(0, 0)", x.pail(0, 0), NONE);
        Bounds.due("part(0, 0)", x.part(0, 0), NONE);
        Bounds.due("fault(0)", x.fault(0), 0);
        Bounds.due("fault(1)", x.fault(1), NONE);
        Bounds.no("undo()", x.undo());
        Bounds.no("image(false)", x.image(false));
        Bounds.due("text() of an empty tape", x.text(), 0);
    }

    private static void none() {
        Bounds.sentence("`NONE = -1`: None.");
        Bounds.due("NONE", RopeToALake.NONE, -1);
    }

    private static void lastCall() {
        Bounds.sentence("An object is used for at most 512 calls after it has been made");
        RopeToALake x = new RopeToALake();
        x.farm(1, 0, 0, 0);
        for (int h = 0; h < 24; h++) {
            x.turn(h, 0);
        }
        for (int i = 26; i <= 511; i++) {
            Bounds.due("call " + i, x.hours(240), 240);
        }
        Bounds.due("the 512th call", x.look(9), 486 * 240);
    }

    private static void stateAtFirst() {
        Bounds.sentence("STATE of draws (an int, 0 at first)");
        RopeToALake x = new RopeToALake();
        int was = 0;
        for (int v : new int[] {MAX, MIN, -1, 0, 1}) {
            Bounds.due("state(" + v + ")", x.state(v), was);
            Bounds.due("look(15)", x.look(15), v);
            was = v;
        }
    }

    private static void stateTold() {
        Bounds.sentence("STATE is told: what it was (nothing is forgotten by that).");
        for (Supplier<RopeToALake> maker : List.<Supplier<RopeToALake>>of(Valleys::busy, Valleys::full)) {
            RopeToALake x = maker.get();
            int kept = x.look(10);
            x.state(x.look(15) + 1);
            Bounds.due("look(10)", x.look(10), kept);
            for (int i = 0; i < kept; i++) {
                Bounds.yes("undo()", x.undo());
            }
            Bounds.no("undo()", x.undo());
            RopeToALake y = maker.get();
            y.state(17);
            y.state(maker.get().look(15));
            Bounds.sameSight("a STATE told and told back", y, maker.get());
        }
    }

    private static void notches() {
        Bounds.sentence("THE ROPE is a ring of NOTCHES 8 .. 40, even (12 at first");
        for (int n = 8; n <= 40; n += 2) {
            RopeToALake x = new RopeToALake();
            Bounds.yes("notches(" + n + ")", x.notches(n));
            Bounds.due("look(0)", x.look(0), n);
            Bounds.due("the last place", x.look(50 + n - 1), NONE);
            Bounds.due("beyond it", x.look(50 + n), NO_SUCH);
            Bounds.due("a bucket at the last notch", x.bucket(n - 1, 1, 0), 0);
            Bounds.due("a bucket beyond it", x.bucket(n, 1, 0), NONE);
        }
    }

    private static void notchesRefused() {
        Bounds.sentence("NOTCHES are told: true; false, and nothing is done, if they can't be.");
        for (int n = 7; n <= 41; n += 2) {
            int odd = n;
            Bounds.refused("notches(" + n + ")", 0, x -> Bounds.bit(x.notches(odd)));
        }
        for (int n : new int[] {MIN, -40, -12, -8, -1, 0, 2, 4, 6, 42, 44, 80, MAX - 1, MAX}) {
            Bounds.refused("notches(" + n + ")", 0, x -> Bounds.bit(x.notches(n)));
        }
    }

    private static void notchesAnew() {
        Bounds.sentence("told anew: all is as at first but NOTCHES, STATE, the TAPE, fault() and THE IMAGE");
        for (int n : new int[] {8, 12, 14, 40}) {
            anew(Valleys::busy, Valleys::feedBusy, n, 28);
            anew(Valleys::full, Valleys::feedFull, n, NONE);
        }
    }

    /** What stays is looked at for itself; in all else the valley goes on as a new one with the same tape does. */
    private static void anew(Supplier<RopeToALake> maker, Consumer<RopeToALake> feeder, int notches, int behindFeed) {
        RopeToALake x = maker.get();
        RopeToALake was = maker.get();
        Bounds.yes("notches(" + notches + ")", x.notches(notches));
        Bounds.due("STATE", x.look(15), was.look(15));
        Bounds.due("fault(0)", x.fault(0), was.fault(0));
        Bounds.due("fault(1)", x.fault(1), was.fault(1));
        Bounds.due("the TAPE", x.feed(0, 0, 0, 0, 0), behindFeed);
        Bounds.yes("THE IMAGE", x.image(false));
        was.image(false);
        Bounds.sameSight("THE IMAGE", x, was);

        RopeToALake y = maker.get();
        y.notches(notches);
        y.image(true);
        RopeToALake z = new RopeToALake();
        z.notches(notches);
        z.state(y.look(15));
        feeder.accept(z);
        z.image(true);
        Bounds.sameFuture("notches(" + notches + ")", y, z);
    }

    private static void lakeAndTrough() {
        Bounds.sentence("PLACES 0 .. NOTCHES less 1: THE LAKE is at 0, THE TROUGH at NOTCHES by 2.");
        for (int n : new int[] {8, 12, 40}) {
            RopeToALake x = Valleys.pulled(n, 1);
            x.bucket(n - 1, 5, 0);
            Bounds.due("the last place", x.pail(0, 4), n - 1);
            x.hours(1);
            Bounds.due("at the LAKE", x.pail(0, 4), 0);
            Bounds.due("taken", x.pail(0, 3), 5);
            for (int place = 1; place < n / 2; place++) {
                x.hours(1);
                Bounds.due("ahead of the TROUGH", x.pail(0, 4), place);
                Bounds.due("nothing given yet", x.look(2), 0);
            }
            x.hours(1);
            Bounds.due("at the TROUGH", x.pail(0, 4), n / 2);
            Bounds.due("given", x.look(2), 5);
            Bounds.due("empty", x.pail(0, 3), 0);
        }
    }

    private static void placesGoRound() {
        Bounds.sentence("At first notch i of the rope is at place i; by a STEP each is one place further (round).");
        for (int n : new int[] {8, 40}) {
            RopeToALake x = Valleys.pulled(n, 1);
            int[] notches = {0, 1, n / 2 - 1, n / 2, n - 2, n - 1};
            for (int b = 0; b < notches.length; b++) {
                x.bucket(notches[b], 1, 0);
            }
            for (int step = 0; step <= 2 * n + 1; step++) {
                for (int b = 0; b < notches.length; b++) {
                    Bounds.due("place behind step " + step, x.pail(b, 4), (notches[b] + step) % n);
                    Bounds.due("notch", x.pail(b, 0), notches[b]);
                }
                Bounds.due("a step", x.hours(1), 1);
            }
        }
    }

    private static void bucketNumbers() {
        Bounds.sentence("A BUCKET: its number; NONE if one can't be (a NOTCH that has one), or there are ten.");
        for (int n : new int[] {10, 40}) {
            RopeToALake x = new RopeToALake();
            x.notches(n);
            for (int b = 0; b < 10; b++) {
                Bounds.due("bucket " + b, x.bucket(n - 1 - b, 1 + b, b), b);
                Bounds.due("BUCKETS", x.look(3), b + 1);
            }
            Bounds.due("the last notch taken", x.bucket(n - 10, 1, 0), NONE);
            Bounds.due("BUCKETS", x.look(3), 10);
        }
        for (int notch = 0; notch < 40; notch++) {
            int free = notch;
            Bounds.refusedIn(Valleys::full, "the eleventh", NONE, x -> x.bucket(free, 1, 0));
        }
        RopeToALake small = new RopeToALake();
        small.notches(8);
        for (int b = 0; b < 8; b++) {
            Bounds.due("bucket " + b, small.bucket(b, 1, 0), b);
        }
        for (int b = -1; b <= 8; b++) {
            Bounds.due("no notch of eight is free", small.bucket(b, 1, 0), NONE);
        }
    }

    private static void bucketNotches() {
        Bounds.sentence("BUCKETS 0 .. 9 as they come: a NOTCH of the rope that has none yet");
        for (int n : new int[] {8, 12, 40}) {
            Supplier<RopeToALake> maker = () -> {
                RopeToALake x = new RopeToALake();
                x.notches(n);
                return x;
            };
            Bounds.range("NOTCH", 0, n - 1, maker, (x, v) -> x.bucket(v, 5, 5), NONE, x -> x.pail(0, 0));
        }
    }

    private static void bucketNotchTaken() {
        Bounds.sentence("a NOTCH of the rope that has none yet");
        for (int notch : new int[] {0, 5, 13}) {
            Bounds.refusedIn(Valleys::busy, "bucket at notch " + notch, NONE, x -> x.bucket(notch, 5, 5));
        }
        RopeToALake x = Valleys.pulled(8, 1);
        x.bucket(0, 5, 5);
        x.hours(1);
        Bounds.due("its place, not its notch, is another one", x.bucket(0, 5, 5), NONE);
        Bounds.due("a notch whose place it had", x.bucket(7, 5, 5), 1);
        Bounds.due("at the LAKE", x.pail(1, 4), 0);
        Bounds.due("the notch of the number of its place", x.bucket(1, 5, 5), 2);
    }

    private static void bucketSizes() {
        Bounds.sentence("a SIZE 1 .. 99, a HOLE 0 .. 99, empty at first");
        Bounds.range("SIZE", 1, 99, Valleys::bare, (x, v) -> x.bucket(3, v, 5), NONE, x -> x.pail(0, 1));
        Bounds.range("SIZE", 1, 99, Valleys::busy, (x, v) -> x.bucket(3, v, 5), NONE, x -> x.pail(3, 1));
        for (int size : new int[] {1, 99}) {
            RopeToALake x = Valleys.pulled(8, 1);
            x.bucket(7, size, 0);
            x.hours(1);
            Bounds.due("a bucket of " + size + " takes", x.pail(0, 3), size);
        }
    }

    private static void bucketHoles() {
        Bounds.sentence("a HOLE 0 .. 99, empty at first");
        Bounds.range("HOLE", 0, 99, Valleys::bare, (x, v) -> x.bucket(3, 5, v), NONE, x -> x.pail(0, 2));
        Bounds.range("HOLE", 0, 99, Valleys::busy, (x, v) -> x.bucket(3, 5, v), NONE, x -> x.pail(3, 2));
        Bounds.range("HOLE told", 0, 99, Valleys::busy, (x, v) -> Bounds.bit(x.tell(4, 1, v)), 0, x -> x.pail(1, 2));
        Bounds.range("HOLE told", 0, 99, Valleys::full, (x, v) -> Bounds.bit(x.tell(4, 9, v)), 0, x -> x.pail(9, 2));
    }

    private static void bucketsEmptyAtFirst() {
        Bounds.sentence("empty at first");
        RopeToALake x = Valleys.pulled(8, 3);
        x.hours(1);
        x.bucket(5, 9, 0);
        Bounds.due("hung at the LAKE's place", x.pail(0, 4), 0);
        Bounds.due("empty", x.pail(0, 3), 0);
        x.tell(0, 0, 7);
        x.hours(1);
        Bounds.due("empty till it comes there", x.pail(0, 3), 0);
        x.tell(0, 0, 1);
        x.hours(1);
        Bounds.due("then full", x.pail(0, 3), 9);
    }

    private static void bucketRefused() {
        Bounds.sentence("its number; NONE if one can't be");
        int[][] bad = {{-1, 5, 5}, {41, 5, 5}, {MIN, 5, 5}, {MAX, 5, 5}, {3, 0, 5}, {3, 100, 5}, {3, MIN, 5},
            {3, MAX, 5}, {3, 5, -1}, {3, 5, 100}, {3, 5, MIN}, {3, 5, MAX}, {-1, 0, -1}, {41, 100, 100}};
        for (int[] b : bad) {
            Bounds.refused("bucket(" + b[0] + ", " + b[1] + ", " + b[2] + ")", NONE, x -> x.bucket(b[0], b[1], b[2]));
        }
    }

    private static void lakeTold() {
        Bounds.sentence("LAKE told 0 .. 9999999, if all drops together are not above 999999999 then");
        Bounds.range("LAKE", 0, 9999999, Valleys::bare, (x, v) -> Bounds.bit(x.tell(6, 0, v)), 0, x -> x.look(1));
        Bounds.range("LAKE", 0, 9999999, Valleys::busy, (x, v) -> Bounds.bit(x.tell(6, 0, v)), 0, x -> x.look(1));
        Bounds.range("LAKE", 0, 9999999, Valleys::full, (x, v) -> Bounds.bit(x.tell(6, 0, v)), 0, x -> x.look(1));
        RopeToALake x = Valleys.busy();
        int others = x.look(11) - x.look(1);
        x.tell(6, 0, 9999999);
        Bounds.due("all drops together", x.look(11), others + 9999999);
    }

    /** So many drops no 512 calls bring up; what is told is tested all the same. */
    private static void lakeOfAFullValley() {
        Bounds.sentence("if all drops together are not above 999999999 then");
        RopeToALake x = floodedValley();
        int rest = 999999999 - (x.look(11) - x.look(1));
        Bounds.due("less room than a LAKE's most", Bounds.bit(rest < 9999999), 1);
        int lake = x.look(1);
        Bounds.no("one drop too many", x.tell(6, 0, rest + 1));
        Bounds.no("the LAKE's most", x.tell(6, 0, 9999999));
        Bounds.due("the LAKE stays", x.look(1), lake);
        Bounds.due("nothing is forgotten", x.look(10), 8);
        Bounds.yes("the last drop", x.tell(6, 0, rest));
        Bounds.due("all drops together", x.look(11), 999999999);
        Bounds.due("the LAKE", x.look(1), rest);
        Bounds.no("one drop more", x.tell(6, 0, rest + 1));
        Bounds.yes("as many as it has", x.tell(6, 0, rest));
        Valleys.law(x, "share 9999;");
        x.hours(24);
        Bounds.due("all drops together behind a midnight", x.look(11), 999999999);
        Bounds.due("the TROUGH is SHARED", x.look(2), 0);
        Bounds.yes("none", x.tell(6, 0, 0));
    }

    /** More than 990000000 drops outside the lake, and eight hours kept. */
    private static RopeToALake floodedValley() {
        RopeToALake x = Valleys.pulled(10, 60);
        for (int b = 0; b < 10; b++) {
            x.bucket(b, 99, 0);
        }
        for (int i = 0; i < 1000 && x.look(11) - x.look(1) <= 999999999 - 9999999; i++) {
            Bounds.yes("LAKE", x.tell(6, 0, 9999999));
            Bounds.due("steps", x.hours(240), 14400);
        }
        return x;
    }

    private static void troughNotTold() {
        Bounds.sentence("TROUGH not");
        RopeToALake told = Valleys.busy();
        int trough = told.look(2);
        for (int what = 0; what <= 8; what++) {
            told.tell(what, 1, 2);
            Bounds.due("TROUGH behind tell(" + what + ", ..)", told.look(2), trough);
        }
        Bounds.sentence("true; false if one can't be, or another what.");
        for (int what : new int[] {MIN, -1, 9, 10, MAX}) {
            for (int v : new int[] {NONE, 0, 1}) {
                Bounds.refused("tell(" + what + ", 0, " + v + ")", 0, x -> Bounds.bit(x.tell(what, 0, v)));
            }
        }
    }

    private static void farmNumbers() {
        Bounds.sentence("FARMS 0 .. 8 as they come");
        RopeToALake nine = Valleys.withFarms(9);
        Bounds.due("of(8, 0)", nine.of(8, 0), 10);
        Bounds.due("of(9, 0)", nine.of(9, 0), NO_SUCH);
        Bounds.sentence("A FARM: its number; NONE if one can't be, or there are nine.");
        RopeToALake x = new RopeToALake();
        for (int f = 0; f < 9; f++) {
            Bounds.due("of(" + f + ", 0) ahead", x.of(f, 0), NO_SUCH);
            Bounds.due("farm " + f, x.farm(f, 0, 0, 0), f);
            Bounds.due("FARMS", x.look(4), f + 1);
            Bounds.due("of(" + f + ", 0)", x.of(f, 0), f);
        }
        Bounds.refusedIn(() -> Valleys.withFarms(9), "the tenth", NONE, y -> y.farm(0, 0, 0, 0));
        Bounds.refusedIn(Valleys::full, "the tenth", NONE, y -> y.farm(10, 1, 1, 1));
    }

    private static void farmTraits() {
        Bounds.sentence("ARMS 0 .. 60, SLOW 0 .. 60, WEEDS 0 .. 9, NEED 0 .. 9999, drops (0 at first)");
        for (Supplier<RopeToALake> maker : List.<Supplier<RopeToALake>>of(Valleys::bare, Valleys::busy)) {
            int next = maker.get().look(4);
            Bounds.range("ARMS", 0, 60, maker, (x, v) -> x.farm(v, 1, 1, 1), NONE, x -> x.of(next, 0));
            Bounds.range("SLOW", 0, 60, maker, (x, v) -> x.farm(1, v, 1, 1), NONE, x -> x.of(next, 1));
            Bounds.range("WEEDS", 0, 9, maker, (x, v) -> x.farm(1, 1, v, 1), NONE, x -> x.of(next, 2));
            Bounds.range("NEED", 0, 9999, maker, (x, v) -> x.farm(1, 1, 1, v), NONE, x -> x.of(next, 3));
            RopeToALake x = maker.get();
            x.farm(60, 60, 9, 9999);
            for (int w = 4; w <= 12; w++) {
                Bounds.due("of(.., " + w + ") at first", w == 10 ? 0 : x.of(next, w), 0);
            }
        }
    }

    private static void farmTraitsToldLater() {
        Bounds.sentence("What 0 ARMS, 1 SLOW, 2 WEEDS, 3 NEED of FARM i");
        int[] most = {60, 60, 9, 9999};
        for (int what = 0; what < 4; what++) {
            int w = what;
            Bounds.range("tell " + what + " of 0", 0, most[what], Valleys::busy,
                    (x, v) -> Bounds.bit(x.tell(w, 0, v)), 0, x -> x.of(0, w));
            Bounds.range("tell " + what + " of 2", 0, most[what], Valleys::busy,
                    (x, v) -> Bounds.bit(x.tell(w, 2, v)), 0, x -> x.of(2, w));
            Bounds.range("tell " + what + " of 8", 0, most[what], Valleys::full,
                    (x, v) -> Bounds.bit(x.tell(w, 8, v)), 0, x -> x.of(8, w));
            for (int f : new int[] {MIN, -1, 3, 9, MAX}) {
                Bounds.refusedIn(Valleys::busy, "tell " + what + " of " + f, 0, x -> Bounds.bit(x.tell(w, f, 1)));
            }
            Bounds.refusedIn(Valleys::full, "tell " + what + " of 9", 0, x -> Bounds.bit(x.tell(w, 9, 1)));
            Bounds.refusedIn(Valleys::bare, "tell " + what + " of 0", 0, x -> Bounds.bit(x.tell(w, 0, 1)));
        }
    }

    private static void farmRefused() {
        Bounds.sentence("NONE if one can't be, or there are nine.");
        int[] most = {60, 60, 9, 9999};
        for (int t = 0; t < 4; t++) {
            for (int v : new int[] {MIN, -1, most[t] + 1, MAX}) {
                int[] f = {5, 5, 5, 5};
                f[t] = v;
                Bounds.refused("farm with " + v, NONE, x -> x.farm(f[0], f[1], f[2], f[3]));
            }
        }
    }

    private static void fields() {
        Bounds.sentence("each PLACE but the LAKE's and the TROUGH's may be over a FARM's FIELD, or none's (so at first)");
        for (int n = 8; n <= 40; n += 2) {
            RopeToALake x = Valleys.withFarms(0);
            x.notches(n);
            x.farm(1, 0, 0, 0);
            for (int p = -1; p <= n; p++) {
                boolean isLand = p > 0 && p < n && p != n / 2;
                Bounds.due("field at " + p + " of " + n, Bounds.bit(x.tell(5, p, 0)), Bounds.bit(isLand));
                if (p >= 0 && p < n) {
                    Bounds.due("look(50 + " + p + ")", x.look(50 + p), isLand ? 0 : NONE);
                }
                Bounds.due("none's at " + p + " of " + n, Bounds.bit(x.tell(5, p, NONE)), Bounds.bit(isLand));
            }
        }
        for (int p : new int[] {MIN, -1, 0, 7, 14, 20, 39, 40, MAX}) {
            for (int v : new int[] {NONE, 0, 2}) {
                Bounds.refusedIn(Valleys::busy, "tell(5, " + p + ", " + v + ")", 0, x -> Bounds.bit(x.tell(5, p, v)));
            }
        }
    }

    private static void fieldFarms() {
        Bounds.sentence("5 the FARM whose FIELD is at PLACE i (NONE: none)");
        Bounds.range("FIELD", NONE, 2, Valleys::busy, (x, v) -> Bounds.bit(x.tell(5, 13, v)), 0, x -> x.look(63));
        Bounds.range("FIELD", NONE, 8, Valleys::full, (x, v) -> Bounds.bit(x.tell(5, 1, v)), 0, x -> x.look(51));
        Bounds.range("FIELD", NONE, NONE, Valleys::bare, (x, v) -> Bounds.bit(x.tell(5, 1, v)), 0, x -> x.look(51));
    }

    private static void tellRefused() {
        Bounds.sentence("4 HOLE of BUCKET i");
        for (int b : new int[] {MIN, -1, 3, 10, MAX}) {
            Bounds.refusedIn(Valleys::busy, "tell(4, " + b + ", 1)", 0, x -> Bounds.bit(x.tell(4, b, 1)));
        }
        Bounds.refusedIn(Valleys::full, "tell(4, 10, 1)", 0, x -> Bounds.bit(x.tell(4, 10, 1)));
        Bounds.refusedIn(Valleys::bare, "tell(4, 0, 1)", 0, x -> Bounds.bit(x.tell(4, 0, 1)));
    }

    private static void tellIndexNotAsked() {
        Bounds.sentence("6 LAKE, 7 FROST, 8 COLD (i not asked)");
        for (int i : new int[] {MIN, -1, 0, 1, 99, MAX}) {
            RopeToALake x = new RopeToALake();
            Bounds.yes("LAKE", x.tell(6, i, 12));
            Bounds.yes("FROST", x.tell(7, i, 13));
            Bounds.yes("COLD", x.tell(8, i, 14));
            Bounds.due("LAKE", x.look(1), 12);
            Bounds.due("FROST", x.look(13), 13);
            Bounds.due("COLD", x.look(14), 14);
        }
    }

    private static void spliceNumbers() {
        Bounds.sentence("SPLICES 0 .. 7 as they come");
        RopeToALake eight = Valleys.full();
        Bounds.due("part(7, 2)", eight.part(7, 2), 71);
        Bounds.due("part(8, 2)", eight.part(8, 2), NONE);
        Bounds.sentence("A SPLICE: its number; NONE if one can't be, or there are eight.");
        RopeToALake x = new RopeToALake();
        for (int s = 0; s < 8; s++) {
            Bounds.due("part(" + s + ", 0) ahead", x.part(s, 0), NONE);
            Bounds.due("splice " + s, x.splice(100 + s, s, s), s);
            Bounds.due("SPLICES", x.look(5), s + 1);
            Bounds.due("part(" + s + ", 0)", x.part(s, 0), 100 + s);
        }
        Bounds.due("the ninth", x.splice(1, 1, 1), NONE);
        Bounds.refusedIn(Valleys::full, "the ninth", NONE, y -> y.splice(1, 1, 1));
        Bounds.refusedIn(Valleys::full, "the ninth, of no strength", NONE, y -> y.splice(0, 0, 0));
    }

    private static void spliceNumbersOfEach() {
        Bounds.sentence("STRENGTH 0 .. 99999, WEAR 0 .. 99, a PRICE 0 .. 9999");
        for (Supplier<RopeToALake> maker : List.<Supplier<RopeToALake>>of(Valleys::bare, Valleys::busy)) {
            int next = maker.get().look(5);
            Bounds.range("STRENGTH", 0, 99999, maker, (x, v) -> x.splice(v, 1, 1), NONE, x -> x.part(next, 0));
            Bounds.range("WEAR", 0, 99, maker, (x, v) -> x.splice(1, v, 1), NONE, x -> x.part(next, 1));
            Bounds.range("PRICE", 0, 9999, maker, (x, v) -> x.splice(1, 1, v), NONE, x -> x.part(next, 2));
        }
    }

    private static void spliceRefused() {
        Bounds.sentence("NONE if one can't be, or there are eight.");
        int[][] bad = {{-1, 1, 1}, {100000, 1, 1}, {MIN, 1, 1}, {MAX, 1, 1}, {1, -1, 1}, {1, 100, 1}, {1, MIN, 1},
            {1, MAX, 1}, {1, 1, -1}, {1, 1, 10000}, {1, 1, MIN}, {1, 1, MAX}, {0, -1, 0}, {0, 0, -1}};
        for (int[] s : bad) {
            Bounds.refused("splice(" + s[0] + ", " + s[1] + ", " + s[2] + ")", NONE, x -> x.splice(s[0], s[1], s[2]));
        }
    }

    private static void spliceOfNoStrength() {
        Bounds.sentence("(One with STRENGTH 0: the rope is BROKEN.)");
        for (int strength : new int[] {0, 1}) {
            RopeToALake x = Valleys.pulled(8, 5);
            x.splice(9, 0, 0);
            Bounds.due("a strong one", x.look(8), 0);
            x.splice(strength, 0, 0);
            Bounds.due("one of " + strength, x.look(8), 1 - strength);
            x.splice(9, 0, 0);
            Bounds.due("behind another strong one", x.look(8), 1 - strength);
            Bounds.due("steps", x.hours(1), 5 * strength);
        }
    }

    private static void mending() {
        Bounds.sentence("A SPLICE is PUT IN ANEW with a STRENGTH 1 .. 99999: true; false if one can't be.");
        Bounds.range("STRENGTH", 1, 99999, Valleys::busy, (x, v) -> Bounds.bit(x.mend(0, v)), 0, x -> x.part(0, 0));
        Bounds.range("STRENGTH", 1, 99999, Valleys::busy, (x, v) -> Bounds.bit(x.mend(1, v)), 0, x -> x.part(1, 0));
        Bounds.range("STRENGTH", 1, 99999, Valleys::full, (x, v) -> Bounds.bit(x.mend(7, v)), 0, x -> x.part(7, 0));
        RopeToALake x = Valleys.pulled(8, 5);
        x.splice(0, 3, 7);
        x.splice(0, 4, 8);
        Bounds.yes("the first", x.mend(0, 1));
        Bounds.due("still BROKEN by the second", x.look(8), 1);
        Bounds.due("no steps", x.hours(1), 0);
        Bounds.yes("the second", x.mend(1, 1));
        Bounds.due("whole", x.look(8), 0);
        Bounds.due("WEAR stays", x.part(1, 1), 4);
        Bounds.due("PRICE stays", x.part(1, 2), 8);
        Bounds.due("a step", x.hours(1), 1);
    }

    private static void mendRefused() {
        Bounds.sentence("true; false if one can't be.");
        for (int s : new int[] {MIN, -1, 2, 8, MAX}) {
            Bounds.refusedIn(Valleys::busy, "mend(" + s + ", 5)", 0, x -> Bounds.bit(x.mend(s, 5)));
        }
        Bounds.refusedIn(Valleys::bare, "mend(0, 5)", 0, x -> Bounds.bit(x.mend(0, 5)));
        Bounds.refusedIn(Valleys::full, "mend(8, 5)", 0, x -> Bounds.bit(x.mend(8, 5)));
    }

    private static void frostTold() {
        Bounds.sentence("FROST 0 .. 60 (0 at first)");
        Bounds.range("FROST", 0, 60, Valleys::bare, (x, v) -> Bounds.bit(x.tell(7, 0, v)), 0, x -> x.look(13));
        Bounds.range("FROST", 0, 60, Valleys::busy, (x, v) -> Bounds.bit(x.tell(7, 0, v)), 0, x -> x.look(13));
    }

    private static void coldTold() {
        Bounds.sentence("COLD 0 .. 1000 (0 at first)");
        Bounds.range("COLD", 0, 1000, Valleys::bare, (x, v) -> Bounds.bit(x.tell(8, 0, v)), 0, x -> x.look(14));
        Bounds.range("COLD", 0, 1000, Valleys::busy, (x, v) -> Bounds.bit(x.tell(8, 0, v)), 0, x -> x.look(14));
    }

    private static void turns() {
        Bounds.sentence("TURNS: for each HOUR a FARM or none (none at first)");
        RopeToALake x = Valleys.withFarms(9);
        for (int h = 0; h < 24; h++) {
            Bounds.due("at first", x.look(20 + h), NONE);
            Bounds.yes("turn(" + h + ", ..)", x.turn(h, h % 9));
        }
        for (int h = 0; h < 24; h++) {
            Bounds.due("look(20 + " + h + ")", x.look(20 + h), h % 9);
            Bounds.yes("turn(" + h + ", NONE)", x.turn(h, NONE));
            Bounds.due("look(20 + " + h + ")", x.look(20 + h), NONE);
        }
    }

    private static void turnRefused() {
        Bounds.sentence("The TURN of an HOUR is a FARM's (NONE: nobody's): true; false if one can't be.");
        Bounds.range("FARM", NONE, 2, Valleys::busy, (x, v) -> Bounds.bit(x.turn(23, v)), 0, x -> x.look(43));
        Bounds.range("FARM", NONE, 8, Valleys::full, (x, v) -> Bounds.bit(x.turn(0, v)), 0, x -> x.look(20));
        Bounds.range("FARM", NONE, NONE, Valleys::bare, (x, v) -> Bounds.bit(x.turn(0, v)), 0, x -> x.look(20));
        for (int h : new int[] {MIN, -1, 24, MAX}) {
            for (int f : new int[] {NONE, 0}) {
                Bounds.refused("turn(" + h + ", " + f + ")", 0, x -> Bounds.bit(x.turn(h, f)));
            }
        }
    }

    private static void absentAtMost() {
        Bounds.sentence("ABSENT: a FARM on a DAY (30 such at most), for whom another FARM pulls");
        RopeToALake x = Valleys.withFarms(2);
        for (int i = 0; i < 30; i++) {
            Bounds.yes("absence " + i, x.absent(i % 2, i, 1 - i % 2));
        }
        Bounds.no("the 31st", x.absent(0, 30, 1));
        x.hours(240);
        x.hours(240);
        x.hours(240);
        Bounds.no("the 31st, when all those DAYS are over", x.absent(0, 30, 1));
        for (int day : new int[] {10, 500, 9999}) {
            Bounds.refusedIn(Valleys::full, "the 31st", 0, y -> Bounds.bit(y.absent(0, day, 1)));
        }
    }

    private static void absentOnce() {
        Bounds.sentence("(on a DAY one can be ABSENT once, or pull for one other, not both)");
        Supplier<RopeToALake> maker = () -> {
            RopeToALake x = Valleys.withFarms(5);
            Bounds.yes("0 is absent, 1 pulls", x.absent(0, 3, 1));
            x.hours(4);
            return x;
        };
        for (int[] two : new int[][] {{0, 1}, {0, 2}, {1, 0}, {1, 2}, {2, 0}, {2, 1}}) {
            String name = "absent(" + two[0] + ", 3, " + two[1] + ")";
            Bounds.refusedIn(maker, name, 0, x -> Bounds.bit(x.absent(two[0], 3, two[1])));
            for (int day : new int[] {2, 4}) {
                Bounds.yes("on a DAY beside it", maker.get().absent(two[0], day, two[1]));
            }
        }
        Bounds.yes("two others", maker.get().absent(2, 3, 3));
        Bounds.yes("two others", maker.get().absent(4, 3, 2));
    }

    private static void absentRefused() {
        Bounds.sentence("true; false if one can't be (one of both is ABSENT on that DAY, or pulls for somebody; "
                + "one and the same), or there are 30.");
        for (int day : new int[] {MIN, -1, 10000, MAX}) {
            Bounds.refused("absent on " + day, 0, x -> Bounds.bit(x.absent(0, day, 1)));
        }
        for (int day : new int[] {0, 9999}) {
            Bounds.yes("absent on " + day, Valleys.withFarms(2).absent(0, day, 1));
        }
        for (int f = 0; f < 3; f++) {
            int same = f;
            Bounds.refusedIn(Valleys::busy, "one and the same", 0, x -> Bounds.bit(x.absent(same, 50, same)));
        }
        for (int f : new int[] {MIN, -1, 3, 9, MAX}) {
            Bounds.refusedIn(Valleys::busy, "absent(" + f + ", 50, 0)", 0, x -> Bounds.bit(x.absent(f, 50, 0)));
            Bounds.refusedIn(Valleys::busy, "absent(0, 50, " + f + ")", 0, x -> Bounds.bit(x.absent(0, 50, f)));
        }
        Bounds.yes("the last FARM", Valleys.busy().absent(2, 50, 0));
        Bounds.yes("the last FARM", Valleys.busy().absent(0, 50, 2));
        Bounds.yes("the last of nine", Valleys.withFarms(9).absent(8, 50, 7));
    }

    private static void foesTold() {
        Bounds.sentence("Two unlike FARMS are FOES or not: true; false if one can't be.");
        for (boolean are : new boolean[] {true, false}) {
            for (int f : new int[] {MIN, -1, 3, 9, MAX}) {
                Bounds.refusedIn(Valleys::busy, "foes(0, " + f + ")", 0, x -> Bounds.bit(x.foes(0, f, are)));
                Bounds.refusedIn(Valleys::busy, "foes(" + f + ", 0)", 0, x -> Bounds.bit(x.foes(f, 0, are)));
                Bounds.refusedIn(Valleys::busy, "foes(" + f + ", same)", 0, x -> Bounds.bit(x.foes(f, f, are)));
            }
            for (int f = 0; f < 3; f++) {
                int same = f;
                Bounds.refusedIn(Valleys::busy, "foes of itself", 0, x -> Bounds.bit(x.foes(same, same, are)));
            }
            Bounds.yes("the last FARM", Valleys.busy().foes(2, 0, are));
            Bounds.yes("the last of nine", Valleys.full().foes(8, 7, are));
            Bounds.yes("the last of nine", Valleys.full().foes(0, 8, are));
        }
        RopeToALake x = Valleys.withFarms(2);
        x.foes(0, 1, true);
        x.foes(0, 1, true);
        x.foes(1, 0, false);
        Bounds.due("told twice and taken back once", x.peace(0), 0);
    }

    private static void pails() {
        Bounds.sentence("NONE if there is none such, or another what.");
        RopeToALake x = Valleys.busy();
        for (int b : new int[] {MIN, -1, 3, 10, MAX}) {
            for (int w = -1; w <= 5; w++) {
                Bounds.due("pail(" + b + ", " + w + ")", x.pail(b, w), NONE);
            }
        }
        for (int w : new int[] {MIN, -1, 5, MAX}) {
            Bounds.due("pail(2, " + w + ")", x.pail(2, w), NONE);
        }
        Bounds.due("the last BUCKET", x.pail(2, 0), 5);
        Bounds.due("the last of ten", Valleys.full().pail(9, 0), 3);
        Bounds.due("the eleventh", Valleys.full().pail(10, 0), NONE);
        Bounds.asked(Valleys::busy, "pail", y -> y.pail(2, 4) + y.pail(3, 4));
    }

    private static void parts() {
        Bounds.sentence("Of a SPLICE what 0 STRENGTH, 1 WEAR, 2 PRICE. NONE if there is none such, or another what.");
        RopeToALake x = Valleys.busy();
        for (int s : new int[] {MIN, -1, 2, 8, MAX}) {
            for (int w = -1; w <= 3; w++) {
                Bounds.due("part(" + s + ", " + w + ")", x.part(s, w), NONE);
            }
        }
        for (int w : new int[] {MIN, -1, 3, MAX}) {
            Bounds.due("part(1, " + w + ")", x.part(1, w), NONE);
        }
        Bounds.due("the last SPLICE", x.part(1, 2), 20);
        Bounds.due("the last of eight", Valleys.full().part(7, 2), 71);
        Bounds.due("the ninth", Valleys.full().part(8, 2), NONE);
        Bounds.asked(Valleys::busy, "part", y -> y.part(1, 0) + y.part(2, 0));
    }
}
