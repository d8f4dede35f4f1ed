/** For each promise of the document its ordinary answers, its edges and its wrong inputs, reckoned by hand. */
public final class PromisesTest {
    private static final int NONE = RopeToALake.NONE;
    private static final int NO_SUCH = NONE - 1;
    private static final int MIN = Integer.MIN_VALUE;
    private static final int MAX = Integer.MAX_VALUE;
    private static int wrong = 0;

    public static void main(String[] args) {
        newObject(); // promise 1
        stateIsTold(); // promise 2
        notchesAreTold(); // promise 3
        notchesMakeAllAnew(); // promise 3
        buckets(); // promise 4
        farms(); // promise 5
        tellings(); // promise 6
        fullValley(); // promise 6
        turns(); // promise 7
        absences(); // promise 8
        splices(); // promise 9
        mending(); // promise 10
        foes(); // promise 11
        feeding(); // promise 12
        ending(); // promise 13
        texts(); // promise 14
        faultPlaces(); // promise 15
        faultLimits(); // promise 15
        weights(); // promise 14, 17
        hours(); // promise 16
        hoursToTheLastDay(); // promise 16
        frost(); // promise 16
        breakingWithinAnHour(); // promise 16
        drips(); // promise 16
        midnight(); // promise 16
        shares(); // promise 16
        farmAnswers(); // promise 17
        pails(); // promise 18
        parts(); // promise 19
        debts(); // promise 20
        deals(); // promise 21
        bestTurns(); // promise 22
        peace(); // promise 23
        logs(); // promise 24
        slowHands(); // promise 25
        breaking(); // promise 26
        lasting(); // promise 27
        undoing(); // promise 28
        undoAndTellings(); // promise 28
        images(); // promise 29
        imageOfAllThatWasTold(); // promise 29
        looks(); // promise 30
        System.out.println(wrong == 0 ? "all promises hold" : wrong + " answers are not as due");
        if (wrong != 0) {
            System.exit(1);
        }
    }

    private static void due(String call, long got, long want) {
        if (got != want) {
            wrong++;
            System.out.println(call + " answered " + got + ", due is " + want);
        }
    }

    private static void yes(String call, boolean got) {
        due(call, got ? 1 : 0, 1);
    }

    private static void no(String call, boolean got) {
        due(call, got ? 1 : 0, 0);
    }

    /** Puts a text on the tape. */
    private static void put(RopeToALake x, String text) {
        for (int i = 0; i < text.length(); i += 20) {
            int[] n = new int[5];
            for (int k = 0; k < 20; k++) {
                n[k / 4] = n[k / 4] << 8 | (i + k < text.length() ? text.charAt(i + k) : 0);
            }
            due("feed of a text", x.feed(n[0], n[1], n[2], n[3], n[4]), i + 20);
        }
        yes("end of a text", x.end(text.length()));
    }

    private static void law(RopeToALake x, String text, int lines) {
        put(x, text);
        due("text " + text, x.text(), lines);
        due("fault(0) of " + text, x.fault(0), 0);
        due("fault(1) of " + text, x.fault(1), NONE);
    }

    private static void badLaw(String text, int what, int place) {
        RopeToALake x = new RopeToALake();
        law(x, "share 7;", 1);
        put(x, text);
        due("text " + text, x.text(), NONE);
        due("fault(0) of " + text, x.fault(0), what);
        due("fault(1) of " + text, x.fault(1), place);
        due("lines behind " + text, x.look(12), 1);
        due("tape behind " + text, x.feed(0, 0, 0, 0, 0), 20);
    }

    /** Eight notches, a bucket of 10 at notch 0 without a hole, a lake of 1000, one farm of 8 arms at every hour. */
    private static RopeToALake mill() {
        RopeToALake x = new RopeToALake();
        yes("notches", x.notches(8));
        due("bucket", x.bucket(0, 10, 0), 0);
        yes("lake", x.tell(6, 0, 1000));
        due("farm", x.farm(8, 0, 0, 0), 0);
        allTurns(x, 0);
        return x;
    }

    private static void allTurns(RopeToALake x, int farm) {
        for (int h = 0; h < 24; h++) {
            yes("turn " + h, x.turn(h, farm));
        }
    }

    private static RopeToALake withFarms(int n) {
        RopeToALake x = new RopeToALake();
        for (int i = 0; i < n; i++) {
            due("farm", x.farm(10, 0, 0, 0), i);
        }
        return x;
    }

    private static void newObject() {
        RopeToALake x = new RopeToALake();
        due("look(0)", x.look(0), 12);
        for (int w = 1; w <= 15; w++) {
            due("look(" + w + ") at first", x.look(w), 0);
        }
        for (int h = 0; h < 24; h++) {
            due("turn at first", x.look(20 + h), NONE);
        }
        due("deals() at first", x.deals(), 0);
        no("undo() at first", x.undo());
        no("image(false) at first", x.image(false));
        due("fault(0) at first", x.fault(0), 0);
        due("fault(1) at first", x.fault(1), NONE);
        due("NONE", NONE, -1);
    }

    private static void stateIsTold() {
        RopeToALake x = new RopeToALake();
        due("state", x.state(17), 0);
        due("state", x.state(MIN), 17);
        due("look(15)", x.look(15), MIN);
        x.hours(3);
        due("undoable", x.look(10), 3);
        x.state(5);
        due("undoable behind state", x.look(10), 3);
        x.notches(12);
        due("state outlives notches", x.look(15), 5);
        x.hours(1);
        due("a draw", x.look(15), 5 * 1664525 + 1013904223);
    }

    private static void notchesAreTold() {
        RopeToALake x = mill();
        for (int n : new int[] {MIN, -8, 0, 6, 7, 9, 39, 41, 42, MAX}) {
            no("notches " + n, x.notches(n));
        }
        due("nothing was done", x.look(3), 1);
        x.splice(5, 1, 1);
        x.absent(0, 0, 0);
        x.tell(5, 1, 0);
        x.tell(7, 0, 9);
        x.tell(8, 0, 9);
        law(x, "share 1;", 1);
        x.log(0, 3);
        x.image(true);
        put(x, "share");
        x.text();
        x.feed(1, 2, 3, 4, 5);
        x.hours(2);
        int draws = x.look(15);
        yes("notches 40", x.notches(40));
        due("notches", x.look(0), 40);
        for (int w : new int[] {1, 2, 3, 4, 5, 6, 7, 8, 9, 10, 11, 12, 13, 14}) {
            due("look(" + w + ") as at first", x.look(w), 0);
        }
        due("draws stay", x.look(15), draws);
        due("no turn", x.look(20), NONE);
        due("no field", x.look(51), NONE);
        due("fault stays", x.fault(0), 1);
        due("fault's place stays", x.fault(1), 5);
        due("tape stays", x.feed(0, 0, 0, 0, 0), 40);
        due("a farm anew", x.farm(1, 0, 0, 0), 0);
        due("no logs", x.slow(0, 1), 60);
        due("a bucket at the last notch", x.bucket(39, 1, 0), 0);
        yes("the image stays", x.image(false));
        due("notches of the image", x.look(0), 8);
        due("lines of the image", x.look(12), 1);
        yes("notches 8", x.notches(8));
        yes("the same again", x.notches(8));
    }

    /** A valley in which nothing is as at first, some days on. */
    private static RopeToALake busy() {
        RopeToALake x = new RopeToALake();
        x.notches(14);
        x.tell(6, 0, 5000);
        for (int i = 0; i < 10; i++) {
            x.bucket(13 - i, 90 + i % 9, i);
        }
        for (int i = 0; i < 9; i++) {
            x.farm(30 + i, 1 + i % 3, 1, 9000 + 40 * i);
            x.log(i, 5 + i);
        }
        for (int i = 0; i < 8; i++) {
            x.splice(90000 + i, 1 + i, 10 * i + 1);
        }
        for (int p = 1; p < 14; p++) {
            x.tell(5, p, (p - 1) % 9);
        }
        for (int h = 0; h < 24; h++) {
            x.turn(h, h % 9);
        }
        for (int i = 0; i < 30; i++) {
            x.absent(6 + i % 3, i / 3, 3 + i % 3);
        }
        for (int a = 0; a < 9; a++) {
            for (int b = 0; b < a; b++) {
                x.foes(a, b, true);
            }
        }
        x.tell(7, 0, 5);
        x.tell(8, 0, 400);
        law(x, "share drops+pulled+1 when farm>3; share wet+need+day+dry+owes;", 2);
        x.hours(100);
        due("drops came up", x.look(2) > 0 ? 1 : 0, 1);
        due("drops in bucket 0", x.pail(0, 3) > 0 ? 1 : 0, 1);
        for (int w = 5; w <= 9; w++) {
            due("of farm 0, " + w, x.of(0, w) > 0 ? 1 : 0, 1);
        }
        due("farm 6 owes", x.owes(6, 3) > 0 ? 1 : 0, 1);
        return x;
    }

    /** Other tellings than those of busy(), which leave much untold; then a day and a half. */
    private static void spareTellings(RopeToALake x) {
        x.bucket(3, 20, 2);
        x.tell(6, 0, 800);
        x.farm(20, 0, 0, 1);
        x.farm(10, 0, 1, 2);
        x.farm(15, 2, 0, 0);
        x.splice(70000, 3, 4);
        x.turn(2, 0);
        x.turn(9, 1);
        x.hours(36);
    }

    private static void notchesMakeAllAnew() {
        RopeToALake z = busy();
        z.notches(14);
        z.bucket(0, 5, 0);
        z.farm(1, 0, 0, 0);
        z.farm(1, 0, 0, 0);
        due("an empty bucket", z.pail(0, 3), 0);
        due("no drops", z.look(11), 0);
        for (int w = 4; w <= 12; w++) {
            due("a new farm, " + w, z.of(0, w), 0);
        }
        RopeToALake x = busy();
        x.notches(8);
        x.state(0);
        RopeToALake y = new RopeToALake();
        y.notches(8);
        spareTellings(x);
        spareTellings(y);
        sameSight(x, y);
        due("absences", x.absent(0, 0, 2) ? 1 : 0, 1);
        due("peace", x.peace(0), 0);
        for (int i = 0; i < 40; i++) {
            yes("logs", x.log(0, 1));
        }
    }

    private static void sameSight(RopeToALake x, RopeToALake y) {
        for (int w = -1; w < 92; w++) {
            due("look " + w, x.look(w), y.look(w));
        }
        for (int i = 0; i < 10; i++) {
            for (int w = 0; w < 13; w++) {
                due("of " + i + " " + w, x.of(i, w), y.of(i, w));
                due("pail " + i + " " + w, x.pail(i, w), y.pail(i, w));
                due("part " + i + " " + w, x.part(i, w), y.part(i, w));
                due("owes " + i + " " + w, x.owes(i, w), y.owes(i, w));
                due("slow " + i + " " + w, x.slow(i, w), y.slow(i, w));
                due("best " + i + " " + w, x.best(i + w), y.best(i + w));
                due("peace " + i + " " + w, x.peace(i + w), y.peace(i + w));
            }
        }
        due("deals", x.deals(), y.deals());
        due("lasting", x.lasting(30000, 0), y.lasting(30000, 0));
    }

    private static void buckets() {
        RopeToALake x = new RopeToALake();
        for (int[] b : new int[][] {{-1, 5, 5}, {12, 5, 5}, {MIN, 5, 5}, {MAX, 5, 5}, {0, 0, 5}, {0, 100, 5},
            {0, MIN, 5}, {0, 5, -1}, {0, 5, 100}, {0, 5, MAX}}) {
            due("bucket", x.bucket(b[0], b[1], b[2]), NONE);
        }
        due("bucket", x.bucket(11, 1, 0), 0);
        due("bucket", x.bucket(0, 99, 99), 1);
        due("bucket at a taken notch", x.bucket(11, 1, 0), NONE);
        for (int i = 2; i < 10; i++) {
            due("bucket", x.bucket(i, 1, 0), i);
        }
        due("the eleventh", x.bucket(10, 1, 0), NONE);
        due("buckets", x.look(3), 10);
        RopeToALake y = mill();
        y.hours(1);
        y.tell(0, 0, 3);
        y.hours(1);
        due("a late bucket", y.bucket(2, 5, 5), 1);
        due("its place", y.pail(1, 4), 5);
        due("it is empty", y.pail(1, 3), 0);
    }

    private static void farms() {
        RopeToALake x = new RopeToALake();
        int[] most = {60, 60, 9, 9999};
        for (int t = 0; t < 4; t++) {
            for (int v : new int[] {-1, most[t] + 1, MIN, MAX}) {
                int[] f = new int[4];
                f[t] = v;
                due("farm with " + v, x.farm(f[0], f[1], f[2], f[3]), NONE);
            }
        }
        due("farm", x.farm(60, 60, 9, 9999), 0);
        for (int i = 1; i < 9; i++) {
            due("farm", x.farm(0, 0, 0, 0), i);
        }
        due("the tenth", x.farm(0, 0, 0, 0), NONE);
        due("farms", x.look(4), 9);
    }

    private static void tellings() {
        RopeToALake x = new RopeToALake();
        x.farm(1, 2, 3, 4);
        x.bucket(0, 10, 0);
        int[] most = {60, 60, 9, 9999};
        for (int t = 0; t < 4; t++) {
            yes("tell most", x.tell(t, 0, most[t]));
            due("told", x.of(0, t), most[t]);
            no("tell more", x.tell(t, 0, most[t] + 1));
            no("tell less", x.tell(t, 0, -1));
            no("tell none", x.tell(t, 1, 0));
            no("tell none", x.tell(t, -1, 0));
            due("still", x.of(0, t), most[t]);
            yes("tell least", x.tell(t, 0, 0));
        }
        yes("hole", x.tell(4, 0, 99));
        no("hole", x.tell(4, 0, 100));
        no("hole", x.tell(4, 0, -1));
        no("hole of none", x.tell(4, 1, 5));
        no("hole of none", x.tell(4, -1, 5));
        due("hole", x.pail(0, 2), 99);
        yes("no hole", x.tell(4, 0, 0));
        yes("field", x.tell(5, 1, 0));
        yes("field", x.tell(5, 11, 0));
        due("field", x.look(51), 0);
        due("field", x.look(61), 0);
        yes("no field", x.tell(5, 1, NONE));
        due("no field", x.look(51), NONE);
        for (int i : new int[] {-1, 0, 6, 12, MIN, MAX}) {
            no("field at " + i, x.tell(5, i, 0));
            no("none's at " + i, x.tell(5, i, NONE));
        }
        no("field of none such", x.tell(5, 1, 1));
        no("field of none such", x.tell(5, 1, -2));
        yes("lake", x.tell(6, MIN, 9999999));
        no("lake", x.tell(6, 0, 10000000));
        no("lake", x.tell(6, 0, -1));
        due("lake", x.look(1), 9999999);
        yes("an empty lake", x.tell(6, 0, 0));
        yes("frost", x.tell(7, MAX, 60));
        no("frost", x.tell(7, 0, 61));
        no("frost", x.tell(7, 0, -1));
        due("frost", x.look(13), 60);
        yes("no frost", x.tell(7, 0, 0));
        yes("cold", x.tell(8, -5, 1000));
        no("cold", x.tell(8, 0, 1001));
        no("cold", x.tell(8, 0, -1));
        due("cold", x.look(14), 1000);
        yes("no cold", x.tell(8, 0, 0));
        no("another what", x.tell(9, 0, 0));
        no("another what", x.tell(-1, 0, 0));
        no("another what", x.tell(MIN, 0, 0));
    }

    /** So many drops are beyond 512 calls too. */
    private static void fullValley() {
        RopeToALake x = new RopeToALake();
        x.notches(8);
        for (int i = 0; i < 8; i++) {
            x.bucket(i, 99, 0);
        }
        x.farm(60, 0, 0, 0);
        allTurns(x, 0);
        int calls = 0;
        while (x.look(11) - x.look(1) <= 999999999 - 9999999 && calls < 2000) {
            yes("lake", x.tell(6, 0, 9999999));
            x.hours(240);
            calls++;
        }
        int rest = 999999999 - (x.look(11) - x.look(1));
        due("room for less than a full lake", rest < 9999999 ? 1 : 0, 1);
        no("one drop too many", x.tell(6, 0, rest + 1));
        yes("all that may be", x.tell(6, 0, rest));
        due("all drops", x.look(11), 999999999);
        law(x, "share 9999;", 1);
        x.hours(24);
        due("shared", x.look(2), 0);
        due("all drops", x.look(11), 999999999);
        due("the farm's", x.of(0, 4) > 900000000 ? 1 : 0, 1);
    }

    private static void turns() {
        RopeToALake x = withFarms(2);
        yes("turn", x.turn(0, 1));
        yes("turn", x.turn(23, 0));
        due("turn", x.look(20), 1);
        due("turn", x.look(43), 0);
        for (int h : new int[] {-1, 24, MIN, MAX}) {
            no("turn at " + h, x.turn(h, 0));
        }
        no("turn of none such", x.turn(0, 2));
        no("turn of none such", x.turn(0, -2));
        due("turn stays", x.look(20), 1);
        yes("nobody's", x.turn(0, NONE));
        due("nobody's", x.look(20), NONE);
    }

    private static void absences() {
        RopeToALake x = withFarms(5);
        no("one and the same", x.absent(0, 0, 0));
        no("none such", x.absent(5, 0, 0));
        no("none such", x.absent(0, 0, 5));
        no("none such", x.absent(-1, 0, 0));
        no("none such", x.absent(0, 0, NONE));
        no("day", x.absent(0, -1, 1));
        no("day", x.absent(0, 10000, 1));
        yes("absent", x.absent(0, 9999, 1));
        no("absent twice", x.absent(0, 9999, 2));
        no("pulls for two", x.absent(2, 9999, 1));
        no("absent and pulls", x.absent(2, 9999, 0));
        no("pulls and absent", x.absent(1, 9999, 2));
        yes("two others", x.absent(2, 9999, 3));
        yes("another day", x.absent(1, 9998, 0));
        for (int i = 3; i < 30; i++) {
            yes("absence " + i, x.absent(0, i, 1));
        }
        no("the thirty-first", x.absent(0, 100, 1));
    }

    private static void splices() {
        RopeToALake x = new RopeToALake();
        for (int[] s : new int[][] {{-1, 0, 0}, {100000, 0, 0}, {0, -1, 0}, {0, 100, 0}, {0, 0, -1}, {0, 0, 10000}}) {
            due("splice", x.splice(s[0], s[1], s[2]), NONE);
        }
        due("splice", x.splice(99999, 99, 9999), 0);
        due("whole", x.look(8), 0);
        for (int i = 1; i < 7; i++) {
            due("splice", x.splice(1, 0, 0), i);
        }
        due("whole", x.look(8), 0);
        due("splice of 0", x.splice(0, 0, 0), 7);
        due("broken", x.look(8), 1);
        due("the ninth", x.splice(1, 0, 0), NONE);
        due("splices", x.look(5), 8);
    }

    private static void mending() {
        RopeToALake x = mill();
        x.splice(0, 3, 1);
        due("no steps", x.hours(1), 0);
        for (int[] m : new int[][] {{1, 5}, {-1, 5}, {MAX, 5}, {0, 0}, {0, -1}, {0, 100000}}) {
            no("mend", x.mend(m[0], m[1]));
        }
        due("still", x.look(8), 1);
        yes("mend", x.mend(0, 99999));
        due("strength", x.part(0, 0), 99999);
        due("whole", x.look(8), 0);
        due("steps", x.hours(1), 8);
        due("worn", x.part(0, 0), 99999 - 24);
        yes("mend to less", x.mend(0, 1));
        due("less", x.part(0, 0), 1);
        due("mend forgets", x.look(10), 0);
    }

    private static void foes() {
        RopeToALake x = withFarms(4);
        no("the same", x.foes(1, 1, true));
        no("none such", x.foes(0, 4, true));
        no("none such", x.foes(-1, 0, true));
        yes("foes", x.foes(3, 0, true));
        yes("foes again", x.foes(0, 3, true));
        due("peace", x.peace(0), 0);
        due("0 1 3 2", x.peace(12), 3);
        yes("no foes, told the other way", x.foes(0, 3, false));
        due("0 1 2 3", x.peace(12), 2);
        yes("no foes again", x.foes(3, 0, false));
    }

    private static void feeding() {
        RopeToALake x = new RopeToALake();
        for (int i = 1; i <= 20; i++) {
            due("feed", x.feed(0x20202020, 0x20202020, 0x20202020, 0x20202020, 0x20202020), 20 * i);
        }
        due("too much", x.feed(0, 0, 0, 0, 0), NONE);
        yes("end", x.end(381));
        due("too much by one", x.feed(0, 0, 0, 0, 0), NONE);
        yes("end", x.end(380));
        due("just enough", x.feed(0x20202020, 0x20202020, 0x20202020, 0x20202020, 0x2020203B), 400);
        due("text", x.text(), NONE);
        due("the last byte is ;", x.fault(1), 399);
        x.feed(0x73686172, 0x65203120, 0x3B0A2020, 0x20202020, 0x80FF0000);
        x.end(16);
        due("highest byte first", x.text(), 1);
        x.feed(0x20202020, 0x20202020, 0x20202020, 0x20202020, 0x20FF2020);
        due("a byte above 127", x.text(), NONE);
        due("its place", x.fault(1), 17);
    }

    private static void ending() {
        RopeToALake x = new RopeToALake();
        yes("end(0) of an empty tape", x.end(0));
        no("end(1) of an empty tape", x.end(1));
        x.feed(1, 2, 3, 4, 5);
        no("end(21)", x.end(21));
        no("end(-1)", x.end(-1));
        no("end(MIN)", x.end(MIN));
        no("end(MAX)", x.end(MAX));
        yes("end(20)", x.end(20));
        yes("end(7)", x.end(7));
        no("end(8)", x.end(8));
        due("feed", x.feed(1, 2, 3, 4, 5), 27);
    }

    private static void texts() {
        RopeToALake x = withFarms(2);
        law(x, "", 0);
        law(x, "share1;", 1);
        law(x, "share farm when not(1<2)or 3=3and 4>3;\n share 0000 ;  ", 2);
        law(x, "share 9999*need/0001-wet+dry*owes when day<1 and drops>2 or not not weeds=pulled;", 1);
        due("lines", x.look(12), 1);
        law(x, "  \n ", 0);
        due("no lines", x.look(12), 0);
        law(x, "share 5;", 1);
        due("weight", x.of(0, 10), 5);
        put(x, "share 6");
        due("fault", x.text(), NONE);
        due("weight stays", x.of(0, 10), 5);
        due("tape is empty behind a fault", x.text(), 0);
        due("an empty law", x.of(0, 10), 0);
        due("no fault any more", x.fault(0), 0);
        law(x, "share 1;share 1;share 1;share 1;share 1;share 1;share 1;share 1;"
                + "share 1;share 1;share 1;share 1;share 1;share 1;share 1;share 1;", 16);
        law(x, "share 1 when ((not(not(not(1=1)))));", 1);
    }

    private static void faultPlaces() {
        badLaw("()".repeat(200), 1, 0);
        badLaw("share 1" + "+".repeat(393), 1, 8);
        badLaw("share 1" + "+1".repeat(196) + "*", 1, 400);
        badLaw("share", 1, 5);
        badLaw("share ", 1, 6);
        badLaw("Share 1;", 1, 0);
        badLaw("shares 1;", 1, 0);
        badLaw("shareX 1;", 1, 0);
        badLaw(";", 1, 0);
        badLaw("1", 1, 0);
        badLaw("share 1", 1, 7);
        badLaw("share 1 ", 1, 8);
        badLaw("share 1;;", 1, 8);
        badLaw("share 12345;", 1, 6);
        badLaw("share 00000;", 1, 6);
        badLaw("share -1;", 1, 6);
        badLaw("share (1);", 1, 6);
        badLaw("share 1 2;", 1, 8);
        badLaw("share 1+;", 1, 8);
        badLaw("share 1/day;", 1, 8);
        badLaw("share 1/12345;", 1, 8);
        badLaw("share 1/00000;", 1, 8);
        badLaw("share 1/;", 1, 8);
        badLaw("share 1/0;", 2, 8);
        badLaw("share 1 / 0000;", 2, 10);
        badLaw("share 1/0 ?", 2, 8);
        badLaw("share 1 ? 1/0;", 1, 8);
        badLaw("share 1 when;", 1, 12);
        badLaw("share 1 when 1;", 1, 14);
        badLaw("share 1 when 1=;", 1, 15);
        badLaw("share 1 when 1=1=1;", 1, 16);
        badLaw("share 1 when (1)=1;", 1, 15);
        badLaw("share 1 when (1=1;", 1, 17);
        badLaw("share 1 when 1=1);", 1, 16);
        badLaw("share 1 when 1=1 and;", 1, 20);
        badLaw("share 1 when 1=1 or or 1=1;", 1, 20);
        badLaw("share 1 when not;", 1, 16);
        badLaw("share 1 when 1<=1;", 1, 15);
        badLaw("share 1 when 1=1 when 1=1;", 1, 17);
        badLaw("share pulledwet;", 1, 6);
        badLaw("share\t1;", 1, 5);
        badLaw("share 1;\r", 1, 8);
        badLaw("share 1 when 4/0=1;", 2, 15);
        badLaw("share \u00e9;", 1, 6);
        badLaw("share 1; share", 1, 14);
        RopeToALake x = new RopeToALake();
        due("another what", x.fault(2), NONE);
        due("another what", x.fault(-1), NONE);
    }

    private static void faultLimits() {
        String sixteen = "share 1;share 1;share 1;share 1;share 1;share 1;share 1;share 1;"
                + "share 1;share 1;share 1;share 1;share 1;share 1;share 1;share 1;";
        badLaw(sixteen + " share", 3, 129);
        badLaw(sixteen + "share 1;", 3, 128);
        badLaw(sixteen + "1", 1, 128);
        badLaw("share 1 when (((((((((1=1)))))))));", 3, 21);
        badLaw("share 1 when not not not not (((( not 1=1", 3, 34);
        badLaw("share 1 when ((((((((1=1)))))))) and ((((((((not 1=1", 3, 45);
        RopeToALake x = withFarms(1);
        law(x, "share 1 when ((((((((1=1)))))))) and not not not not not not not not 1=1 ;", 1);
        law(x, "share 3 when not 1=1 or not 1=1 or not 1=1 or not 1=1 or not 1=1 or not 1=1 or "
                + "not 1=1 or not 1=1 or not 1=1 or not 1=2;", 1);
        due("its weight", x.of(0, 10), 3);
        law(x, "share 1" + "+1".repeat(196) + ";", 1);
        due("its weight", x.of(0, 10), 197);
        law(x, "share 4 when 1=2 or (1=2 or 1=1 and (1=2 or 1=1 and (1=2 or 1=1 and (1=2 or 1=1 and "
                + "(1=2 or 1=1 and (1=2 or 1=1 and (1=2 or 1=1 and (1=2 or 1=1 and 1+1*1=1+1*1))))))));", 1);
        due("its weight", x.of(0, 10), 4);
    }

    private static void weights() {
        RopeToALake x = new RopeToALake();
        x.farm(20, 1, 2, 30);
        x.farm(40, 5, 6, 700);
        due("no law", x.of(0, 10), 0);
        weight(x, "share farm;", 0, 1);
        weight(x, "share arms;", 20, 40);
        weight(x, "share weeds;", 2, 6);
        weight(x, "share need;", 30, 700);
        weight(x, "share need-100;", 0, 600);
        weight(x, "share need*need;", 900, 9999);
        weight(x, "share 9999*9999*9999;", expected(9999 * 9999 * 9999), expected(9999 * 9999 * 9999));
        weight(x, "share 2+3*4-1;", 13, 13);
        weight(x, "share 10-3-2;", 5, 5);
        weight(x, "share 100/7*7;", 98, 98);
        weight(x, "share 9+weeds/4;", 9, 10);
        weight(x, "share 2*farm+1 when farm=1;", 0, 3);
        weight(x, "share 1 when farm=1; share 2; share 3;", 2, 1);
        weight(x, "share 0-7/2+9;", 6, 6);
        weight(x, "share 1 when farm=0 or farm=1 and 1=2;", 1, 0);
        weight(x, "share 1 when (farm=0 or farm=1) and 1=2;", 0, 0);
        weight(x, "share 1 when not farm=0 and 1=1;", 0, 1);
        weight(x, "share 1 when not (farm=0 and 1=1);", 0, 1);
        weight(x, "share 1 when need>30; share 5 when need<31 and need>29;", 5, 1);
        weight(x, "share 1 when 0-1<0;", 1, 1);
        weight(x, "share drops+pulled+wet+dry+owes+day;", 0, 0);
        weight(x, "share 8 when 9999*9999*9999 < 0;", 9999 * 9999 * 9999 < 0 ? 8 : 0, 9999 * 9999 * 9999 < 0 ? 8 : 0);
        weight(x, "share 10 + weeds * 1 - farm * 7 / 2;", 12, 13);
        // 9999 * 9999 * 22 wraps to -2095407274, and that by 9999 is -209561 towards 0
        weight(x, "share 0-9999*9999*22/9999-2000*100;", 9561, 9561);
    }

    private static int expected(int v) {
        return Math.max(0, Math.min(9999, v));
    }

    private static void weight(RopeToALake x, String text, int first, int second) {
        put(x, text);
        x.text();
        due("weight of farm 0 by " + text, x.of(0, 10), first);
        due("weight of farm 1 by " + text, x.of(1, 10), second);
    }

    private static void hours() {
        RopeToALake x = mill();
        due("hours", x.hours(0), NONE);
        due("hours", x.hours(-1), NONE);
        due("hours", x.hours(241), NONE);
        due("hours", x.hours(MAX), NONE);
        due("nothing is done", x.look(7), 0);
        due("an hour", x.hours(1), 8);
        due("taken from the lake", x.look(1), 990);
        due("in the bucket", x.pail(0, 3), 10);
        due("a day", x.hours(23), 184);
        due("day", x.look(6), 1);
        due("hour", x.look(7), 0);
        due("trough", x.look(2), 230);
        due("steps in all", x.look(9), 192);
        due("ten days", x.hours(240), 1920);
        due("day", x.look(6), 11);
        due("the lake is empty", x.look(1), 0);
        due("the trough keeps all", x.look(2), 1000);
        due("no drop is lost", x.look(11), 1000);
        x.farm(60, 0, 3, 0);
        due("weeds of another", x.hours(1), 5);
        x.tell(1, 0, 4);
        due("slow hands", x.hours(1), 1);
        x.tell(1, 0, 60);
        due("0 at least", x.hours(1), 0);
        x.turn(3, 1);
        due("one's own weeds don't count", x.hours(1), 60);
        x.turn(4, NONE);
        due("nobody's turn", x.hours(1), 0);
    }

    /** No 512 calls come that far, but the bound is told, so it is met here with more of them. */
    private static void hoursToTheLastDay() {
        RopeToALake x = new RopeToALake();
        for (int i = 0; i < 999; i++) {
            due("ten days", x.hours(240), 0);
        }
        due("day", x.look(6), 9990);
        due("DAY would be 10000", x.hours(240), NONE);
        due("nothing is done", x.look(6), 9990);
        due("to the last day", x.hours(216), 0);
        due("day", x.look(6), 9999);
        due("beyond it", x.hours(24), NONE);
        due("to its last hour", x.hours(23), 0);
        due("beyond it", x.hours(1), NONE);
        due("hour", x.look(7), 23);
        yes("undo", x.undo());
        due("to its last hour", x.hours(1), 0);
    }

    private static void frost() {
        RopeToALake x = mill();
        x.tell(7, 0, 3);
        x.tell(8, 0, 1000);
        due("frost at night", x.hours(6), 30);
        due("none by day", x.hours(15), 120);
        int draws = 0;
        for (int i = 0; i < 6; i++) {
            draws = draws * 1664525 + 1013904223;
        }
        due("no draws by day", x.look(15), draws);
        due("frost at hours 21 to 23", x.hours(3), 15);
        RopeToALake y = mill();
        y.tell(7, 0, 3);
        int first = (1013904223 >>> 8) % 1000;
        y.tell(8, 0, first);
        due("a draw not below", y.hours(1), 8);
        y.undo();
        y.tell(8, 0, first + 1);
        due("a draw below", y.hours(1), 5);
        RopeToALake z = mill();
        z.state(-1);
        z.tell(7, 0, 8);
        int next = -1664525 + 1013904223;
        z.tell(8, 0, (next >>> 8) % 1000 + 1);
        due("a draw without sign", z.hours(1), 0);
        due("the state", z.look(15), next);
    }

    private static void breakingWithinAnHour() {
        RopeToALake x = mill();
        x.farm(8, 0, 0, 0);
        x.splice(11, 2, 1);
        x.splice(100, 0, 1);
        x.absent(0, 0, 1);
        due("steps till it breaks", x.hours(1), 6);
        due("strength", x.part(0, 0), 0);
        due("unworn", x.part(1, 0), 100);
        due("broken", x.look(8), 1);
        due("pulled", x.of(1, 5), 6);
        due("owes for a broken hour", x.owes(0, 1), 1);
        due("place", x.pail(0, 4), 6);
        due("no more steps", x.hours(1), 0);
        due("owes nothing more", x.owes(0, 1), 1);
        x.mend(0, 2);
        due("one step", x.hours(1), 1);
        due("owes again", x.owes(0, 1), 2);
    }

    private static void drips() {
        RopeToALake x = new RopeToALake();
        x.notches(8);
        x.bucket(7, 10, 4);
        x.tell(6, 0, 1000);
        x.farm(1, 0, 0, 0);
        x.farm(0, 0, 0, 0);
        x.tell(5, 2, 1);
        x.tell(5, 3, 1);
        allTurns(x, 0);
        x.hours(1);
        due("filled", x.pail(0, 3), 10);
        x.hours(1);
        due("back to the lake", x.look(1), 994);
        x.hours(1);
        due("on a field", x.of(1, 4), 4);
        due("left", x.pail(0, 3), 2);
        x.hours(1);
        due("as far as it has them", x.of(1, 4), 6);
        due("dripped in all", x.of(1, 7), 6);
        due("dripped today", x.of(1, 8), 6);
        due("empty", x.pail(0, 3), 0);
        x.hours(1);
        due("nothing comes up", x.look(2), 0);
        due("no drop is lost", x.look(11), 1000);
        x.hours(19);
        due("today is over", x.of(1, 8), 0);
        due("in all it stays", x.of(1, 7), 18);
        for (int owner = 0; owner < 9; owner++) {
            RopeToALake z = withFarms(9);
            z.bucket(11, 9, 2);
            z.tell(6, 0, 9);
            z.tell(5, 1, owner);
            z.tell(0, 0, 2);
            z.turn(0, 0);
            z.hours(1);
            due("on the field of " + owner, z.of(owner, 4), 2);
        }
        RopeToALake y = new RopeToALake();
        y.notches(8);
        y.bucket(0, 9, 9);
        y.bucket(7, 9, 9);
        y.tell(6, 0, 5);
        y.farm(1, 0, 0, 0);
        allTurns(y, 0);
        y.hours(1);
        due("a scant lake", y.pail(1, 3), 5);
        y.hours(7);
        due("drips of the lower number come ahead of the lake", y.look(1), 5 - y.pail(0, 3) - y.pail(1, 3) - y.look(2));
    }

    private static void midnight() {
        RopeToALake x = mill();
        x.tell(3, 0, 100);
        law(x, "share 1;", 1);
        due("a day", x.hours(23), 184);
        due("ahead of midnight", x.of(0, 6), 184);
        x.hours(1);
        due("shared and drunk", x.of(0, 4), 130);
        due("trough", x.look(2), 0);
        due("lake", x.look(1), 1000 - 230 - 10 + 100);
        due("pulled today", x.of(0, 6), 0);
        due("pulled in all", x.of(0, 5), 192);
        due("not dry", x.of(0, 9), 0);
        x.turn(0, NONE);
        for (int h = 1; h < 24; h++) {
            x.turn(h, NONE);
        }
        x.tell(3, 0, 131);
        x.hours(24);
        due("drinks all", x.of(0, 4), 0);
        due("dry", x.of(0, 9), 1);
        x.hours(48);
        due("dry days", x.of(0, 9), 3);
        x.tell(3, 0, 0);
        x.hours(24);
        due("no need, not dry", x.of(0, 9), 3);
        due("no drop is lost", x.look(11), 1000);
    }

    private static void shares() {
        // a trough of 10 by 3, 3, 3: 3 each, the one left to the lesser number
        due("farm 0", shared("share 3;", 3, 0), 4);
        due("farm 1", shared("share 3;", 3, 1), 3);
        due("farm 2", shared("share 3;", 3, 2), 3);
        // 10 by 1, 2, 3: 1 rest 4, 3 rest 2, 5 rest 0
        due("farm 0", shared("share farm+1;", 3, 0), 2);
        due("farm 1", shared("share farm+1;", 3, 1), 3);
        due("farm 2", shared("share farm+1;", 3, 2), 5);
        // 10 by 0, 1, 3, 4: 0, 1 rest 2, 3 rest 6, 5
        due("farm 0", shared("share farm*farm/2+1 when farm>0 and farm<3; share 4 when farm=3;", 4, 0), 0);
        due("farm 1", shared("share farm*farm/2+1 when farm>0 and farm<3; share 4 when farm=3;", 4, 1), 1);
        due("farm 2", shared("share farm*farm/2+1 when farm>0 and farm<3; share 4 when farm=3;", 4, 2), 4);
        due("farm 3", shared("share farm*farm/2+1 when farm>0 and farm<3; share 4 when farm=3;", 4, 3), 5);
        // 10 by 1, 2: 3 rest 1, 6 rest 2
        due("farm 0", shared("share farm+1;", 2, 0), 3);
        due("farm 1", shared("share farm+1;", 2, 1), 7);
        // 10 by 7, 7, 7, 7: 2 each, the two left to farms 0 and 1
        for (int f = 0; f < 4; f++) {
            due("farm " + f, shared("share 7;", 4, f), f < 2 ? 3 : 2);
        }
        // 10 by 5, 5, 5, 5, 5, 5, 5, 5, 5: 1 each, the one left to farm 0
        due("farm 0", shared("share 5;", 9, 0), 2);
        due("farm 8", shared("share 5;", 9, 8), 1);
        // 10 by 9999 and 1: 9 rest 9990, 0 rest 10
        due("farm 0", shared("share 9999-9998*farm;", 2, 0), 10);
        due("farm 1", shared("share 9999-9998*farm;", 2, 1), 0);
        // all weights 0: the trough keeps it
        due("farm 0", shared("share 0;", 2, 0), 0);
        due("farm 0", shared("share 0-5;", 2, 0), 0);
        due("farm 0", shared("", 2, 0), 0);
    }

    /** What a farm has of a trough of 10 behind a midnight. */
    private static int shared(String text, int farms, int farm) {
        RopeToALake x = new RopeToALake();
        x.notches(8);
        x.bucket(7, 10, 0);
        x.tell(6, 0, 10);
        for (int i = 0; i < farms; i++) {
            x.farm(5, 0, 0, 0);
        }
        put(x, text);
        x.text();
        x.turn(7, 0);
        x.hours(24);
        int all = x.look(2);
        for (int i = 0; i < farms; i++) {
            all += x.of(i, 4);
        }
        due("ten drops", all, 10);
        return x.of(farm, 4);
    }

    private static void farmAnswers() {
        RopeToALake x = new RopeToALake();
        x.farm(10, 1, 2, 3);
        x.farm(20, 4, 5, 6);
        x.farm(30, 7, 8, 9);
        for (int w = 0; w < 4; w++) {
            due("trait " + w, x.of(1, w), new int[] {20, 4, 5, 6}[w]);
        }
        x.absent(0, 0, 1);
        x.absent(0, 1, 2);
        allTurns(x, 0);
        x.hours(48);
        due("owes together", x.of(0, 11), 48);
        due("owed to it", x.of(0, 12), 0);
        due("owed to it", x.of(1, 12), 24);
        due("owed to it", x.of(2, 12), 24);
        due("owes none", x.of(1, 11), 0);
        due("pulled", x.of(1, 5), 24 * (20 - 4 - 2 - 8));
        due("pulled none", x.of(0, 5), 0);
        due("dry days", x.of(2, 9), 2);
        law(x, "share owes+day*100+dry*1000;", 1);
        due("weight now", x.of(0, 10), 48 + 200 + 2000);
        due("weight now", x.of(1, 10), 200 + 2000);
        for (int w : new int[] {-1, 13, MIN, MAX}) {
            due("another what", x.of(0, w), NO_SUCH);
        }
        for (int f : new int[] {-1, 3, 9, MIN, MAX}) {
            due("none such", x.of(f, 0), NO_SUCH);
        }
    }

    private static void pails() {
        RopeToALake x = mill();
        x.bucket(5, 7, 3);
        due("notch", x.pail(1, 0), 5);
        due("size", x.pail(1, 1), 7);
        due("hole", x.pail(1, 2), 3);
        due("drops", x.pail(1, 3), 0);
        due("place", x.pail(1, 4), 5);
        x.tell(0, 0, 5);
        x.hours(1);
        due("notch stays", x.pail(1, 0), 5);
        due("place", x.pail(1, 4), 2);
        due("place", x.pail(0, 4), 5);
        due("drops", x.pail(1, 3), 1);
        for (int w : new int[] {-1, 5, MIN, MAX}) {
            due("another what", x.pail(0, w), NONE);
        }
        for (int b : new int[] {-1, 2, 10, MIN, MAX}) {
            due("none such", x.pail(b, 0), NONE);
        }
    }

    private static void parts() {
        RopeToALake x = mill();
        x.splice(50, 4, 77);
        due("strength", x.part(0, 0), 50);
        due("wear", x.part(0, 1), 4);
        due("price", x.part(0, 2), 77);
        x.hours(1);
        due("strength", x.part(0, 0), 18);
        for (int w : new int[] {-1, 3, MIN, MAX}) {
            due("another what", x.part(0, w), NONE);
        }
        for (int s : new int[] {-1, 1, 8, MIN, MAX}) {
            due("none such", x.part(s, 0), NONE);
        }
    }

    private static void debts() {
        RopeToALake x = withFarms(3);
        allTurns(x, 0);
        x.absent(0, 0, 1);
        x.hours(3);
        due("owes", x.owes(0, 1), 3);
        due("not the other way", x.owes(1, 0), 0);
        due("not to others", x.owes(0, 2), 0);
        x.tell(1, 1, 60);
        due("no steps", x.hours(1), 0);
        due("owes all the same", x.owes(0, 1), 4);
        x.hours(24);
        due("only on that day", x.owes(0, 1), 24);
        x.absent(1, 1, 0);
        x.turn(5, 1);
        x.hours(2);
        due("the other way too", x.owes(1, 0), 1);
        due("both stay", x.owes(0, 1), 24);
        due("the same", x.owes(1, 1), NONE);
        due("none such", x.owes(0, 3), NONE);
        due("none such", x.owes(-1, 0), NONE);
    }

    /** Lets each farm owe as told: rows of who, to whom, hours; one day each. */
    private static RopeToALake indebted(int farms, int[][] debts) {
        RopeToALake x = withFarms(farms);
        for (int day = 0; day < debts.length; day++) {
            yes("absent", x.absent(debts[day][0], day, debts[day][1]));
            for (int h = 0; h < 24; h++) {
                x.turn(h, h < debts[day][2] ? debts[day][0] : NONE);
            }
            x.hours(24);
            due("owes", x.owes(debts[day][0], debts[day][1]) >= debts[day][2] ? 1 : 0, 1);
        }
        return x;
    }

    private static void deals() {
        due("none", indebted(3, new int[][] {}).deals(), 0);
        due("one", indebted(2, new int[][] {{0, 1, 3}}).deals(), 1);
        due("even", indebted(2, new int[][] {{0, 1, 3}, {1, 0, 3}}).deals(), 0);
        due("a ring", indebted(3, new int[][] {{0, 1, 2}, {1, 2, 2}, {2, 0, 2}}).deals(), 0);
        due("a chain", indebted(3, new int[][] {{0, 1, 5}, {1, 2, 5}}).deals(), 1);
        due("a chain with a rest", indebted(3, new int[][] {{0, 1, 5}, {1, 2, 4}}).deals(), 2);
        due("two couples", indebted(4, new int[][] {{0, 1, 5}, {2, 3, 4}}).deals(), 2);
        due("two couples crossed", indebted(4, new int[][] {{0, 1, 4}, {0, 3, 1}, {2, 3, 4}, {2, 1, 1}}).deals(), 2);
        // nets 5, 4, 3, -8, -3, -1: 3 and -3; 5 + 4 with -8 and -1
        due("groups", indebted(6, new int[][] {{0, 3, 5}, {1, 3, 3}, {1, 4, 1}, {2, 4, 2}, {2, 5, 1}}).deals(), 4);
        due("nine", indebted(9, new int[][] {{0, 1, 1}, {0, 2, 2}, {0, 3, 3}, {0, 4, 4}, {0, 5, 5}, {0, 6, 6},
            {0, 7, 7}, {0, 8, 8}}).deals(), 8);
        // 1 2 6 against -3 -2 -4 and so on: 2 with -2, then 1 + 6 with -3 and -4
        due("groups", indebted(6, new int[][] {{0, 3, 1}, {1, 3, 2}, {2, 4, 2}, {2, 5, 4}}).deals(), 4);
    }

    private static void bestTurns() {
        RopeToALake x = new RopeToALake();
        due("no farms", x.best(0), NONE);
        RopeToALake y = mill();
        due("trough", y.best(0), 230);
        for (int w : new int[] {-1, 1, 9, 14, MIN, MAX}) {
            due("another what", y.best(w), NONE);
        }
        y.farm(9, 0, 0, 0);
        due("quicker hands", y.best(0), 260);
        // 216 steps end in a trough's 26th bucket at step 212, which no way with farm 0 in it comes to
        due("the first of several", y.best(10) * 1000 + y.best(11) * 100 + y.best(12) * 10 + y.best(13), 1111);
        y.tell(0, 1, 8);
        due("the same hands", y.best(13), 0);
        y.tell(2, 0, 9);
        due("weeds of the other", y.best(10), 0);
        y.tell(2, 0, 0);
        y.tell(0, 1, 60);
        y.splice(12, 1, 1);
        due("till the rope breaks", y.best(0), 10);
        due("any hands do", y.best(10) + y.best(11) + y.best(12) + y.best(13), 0);
        y.mend(0, 11);
        due("broken ahead of the trough", y.best(0), 0);
        y.mend(0, 200);
        due("at the 200th step it breaks", y.best(0), 240);
        // 196 steps are enough: of 6 times 8 a watch three of farm 0 make 144, so one of farm 1 does
        due("first", y.best(10) * 1000 + y.best(11) * 100 + y.best(12) * 10 + y.best(13), 1);
        y.tell(7, 0, 60);
        y.tell(8, 0, 1000);
        due("no frost in thought", y.best(0), 240);
        int draws = y.look(15);
        due("no draws", y.look(15), draws);
        due("nothing done", y.look(9), 0);
        y.farm(0, 0, 0, 0);
        y.farm(0, 0, 0, 0);
        due("four farms", y.best(0), 240);
        y.farm(0, 0, 0, 0);
        due("five farms", y.best(0), NONE);
        RopeToALake last = mill();
        for (int i = 1; i < 4; i++) {
            last.farm(8 + i, 0, 0, 0);
        }
        last.best(0);
        due("the last way of all", last.best(10) * 1000 + last.best(11) * 100 + last.best(12) * 10 + last.best(13), 3333);
        due("its water", last.best(0), 320);
        RopeToALake idle = mill();
        idle.hours(20);
        idle.tell(0, 0, 0);
        due("nobody can pull", idle.best(0), 190);
        idle.tell(0, 0, 60);
        idle.farm(0, 0, 0, 0);
        due("sixty steps an hour", idle.best(0), 190 + 810);
        idle.tell(6, 0, 9999);
        due("sixty steps an hour", idle.best(0), 190 + 1800);
        due("of four watches each", idle.best(10) + idle.best(11) + idle.best(12) + idle.best(13), 0);
        idle.foes(0, 1, true);
        due("peace behind best", idle.peace(13), 1);
        RopeToALake z = mill();
        z.hours(20);
        int now = z.look(2);
        due("as all is now", now, 190);
        due("a whole day from hour 0", z.best(0), 190 + 240);
        z.splice(0, 0, 0);
        due("broken now", z.best(0), 190);
        due("broken now", z.best(13), 0);
    }

    private static void peace() {
        RopeToALake x = new RopeToALake();
        due("no farms", x.peace(0), NONE);
        x.farm(1, 0, 0, 0);
        due("one", x.peace(0), 0);
        due("one", x.peace(13), 0);
        for (int w : new int[] {-1, 1, 9, 14, MIN, MAX}) {
            due("another what", x.peace(w), NONE);
        }
        x.farm(1, 0, 0, 0);
        due("every farm", way(x), 1);
        x.farm(1, 0, 0, 0);
        due("every farm", way(x), 12);
        x.foes(1, 2, true);
        due("0 between them", way(x), 102);
        due("0 between them", x.peace(0), 0);
        x.foes(1, 2, false);
        x.foes(0, 1, true);
        // 0 2 1 2 is the first of those in which 0 and 1 never meet
        due("no foes meet", x.peace(0), 0);
        due("the way", way(x), 212);
        x.foes(0, 2, true);
        due("two meetings", x.peace(0), 2);
        due("the way", way(x), 12);
        x.foes(1, 2, true);
        due("three meetings", x.peace(0), 3);
        due("the way", way(x), 12);
        x.farm(1, 0, 0, 0);
        x.foes(0, 3, true);
        x.foes(1, 3, true);
        x.foes(2, 3, true);
        due("all meet", x.peace(0), 4);
        due("the way", way(x), 123);
        x.foes(1, 0, false);
        due("one couple at peace", x.peace(0), 3);
        x.farm(1, 0, 0, 0);
        due("five", x.peace(0), NONE);
        due("five", x.peace(10), NONE);
    }

    private static int way(RopeToALake x) {
        return x.peace(10) * 1000 + x.peace(11) * 100 + x.peace(12) * 10 + x.peace(13);
    }

    private static void logs() {
        RopeToALake x = withFarms(2);
        no("none such", x.log(2, 5));
        no("none such", x.log(-1, 5));
        no("steps", x.log(0, -1));
        no("steps", x.log(0, 61));
        for (int i = 0; i < 40; i++) {
            yes("log " + i, x.log(i % 2, i % 2 == 0 ? 0 : 60));
        }
        no("the forty-first", x.log(0, 5));
        RopeToALake y = new RopeToALake();
        y.farm(60, 0, 0, 0);
        yes("the greatest log", y.log(0, 60));
        due("not slow", y.slow(0, 0), 0);
        due("not slow", y.slow(0, 1), 0);
        yes("one less", y.log(0, 59));
        due("not together", y.slow(0, 1), NONE);
    }

    private static void slowHands() {
        RopeToALake x = new RopeToALake();
        x.farm(30, 0, 4, 0);
        x.farm(50, 0, 2, 0);
        x.farm(10, 0, 3, 0);
        due("without logs", x.slow(0, 0), 0);
        due("without logs", x.slow(0, 1), 60);
        x.log(0, 20);
        due("30 - 5 - 20", x.slow(0, 0), 5);
        due("30 - 5 - 20", x.slow(0, 1), 5);
        x.log(0, 20);
        due("they go together", x.slow(0, 1), 5);
        x.log(0, 0);
        due("0 steps: 25 at least", x.slow(0, 0), NONE);
        due("they don't go together", x.slow(0, 1), NONE);
        x.log(1, 0);
        due("50 - 7 - 0", x.slow(1, 0), 43);
        due("60 at most", x.slow(1, 1), 60);
        x.tell(0, 1, 5);
        due("0 at least", x.slow(1, 0), 0);
        x.log(2, 8);
        due("more than its arms let", x.slow(2, 0), NONE);
        x.tell(0, 2, 14);
        due("its arms as they are now", x.slow(2, 0), 0);
        due("its arms as they are now", x.slow(2, 1), 0);
        for (int w : new int[] {-1, 2, MIN, MAX}) {
            due("another what", x.slow(1, w), NONE);
        }
        due("none such", x.slow(3, 0), NONE);
        due("none such", x.slow(-1, 1), NONE);
    }

    private static void breaking() {
        RopeToALake x = new RopeToALake();
        due("no splices", x.breaks(99999), NONE);
        x.splice(99999, 1, 1);
        due("the last step", x.breaks(99999), 0);
        due("one less", x.breaks(99998), NONE);
        x.splice(99, 0, 1);
        due("without wear never", x.breaks(99998), NONE);
        x.splice(10, 3, 1);
        x.splice(4, 1, 1);
        x.splice(8, 2, 1);
        due("of several the least", x.breaks(50000), 2);
        due("of several the least", x.breaks(4), 2);
        due("not yet", x.breaks(3), NONE);
        x.mend(3, 3);
        due("the first", x.breaks(4), 3);
        due("the first", x.breaks(3), 3);
        for (int n : new int[] {0, -1, 100000, MIN, MAX}) {
            due("breaks " + n, x.breaks(n), NONE);
        }
        x.splice(0, 0, 1);
        due("one at 0 now", x.breaks(1), 5);
        due("one at 0 now, but no steps", x.breaks(0), NONE);
    }

    private static void lasting() {
        RopeToALake x = new RopeToALake();
        due("no splices", x.lasting(99999, 0), 0);
        due("no splices", x.lasting(99999, 1), 0);
        x.splice(99999, 1, 100);
        x.splice(99, 0, 1000);
        x.splice(10, 3, 7);
        x.splice(4, 1, 9999);
        x.splice(0, 0, 20);
        due("prices", x.lasting(1, 0), 20);
        due("set", x.lasting(2, 1), 16);
        due("prices", x.lasting(3, 0), 20);
        due("set", x.lasting(3, 1), 16);
        due("prices", x.lasting(4, 0), 20 + 9999 + 7);
        due("set", x.lasting(4, 1), 16 + 8 + 4);
        due("set", x.lasting(99998, 1), 16 + 8 + 4);
        due("set", x.lasting(99999, 1), 16 + 8 + 4 + 1);
        due("prices", x.lasting(99999, 0), 20 + 9999 + 7 + 100);
        for (int n : new int[] {0, -1, 100000, MIN, MAX}) {
            due("lasting " + n, x.lasting(n, 0), NONE);
            due("lasting " + n, x.lasting(n, 1), NONE);
        }
        due("another what", x.lasting(5, 2), NONE);
        due("another what", x.lasting(5, -1), NONE);
    }

    private static void undoing() {
        RopeToALake x = mill();
        x.tell(3, 0, 500);
        x.farm(5, 0, 0, 1);
        x.absent(0, 0, 1);
        x.splice(5000, 2, 1);
        x.tell(5, 1, 1);
        x.tell(4, 0, 1);
        law(x, "share 1;", 1);
        x.hours(22);
        int[] ahead = sight(x);
        due("two hours over midnight", x.hours(3) > 0 ? 1 : 0, 1);
        due("day", x.look(6), 1);
        due("dry", x.of(0, 9), 1);
        yes("undo", x.undo());
        yes("undo", x.undo());
        due("day", x.look(6), 0);
        yes("undo", x.undo());
        int[] back = sight(x);
        for (int i = 0; i < ahead.length; i++) {
            due("back as it was, " + i, back[i], ahead[i]);
        }
        due("five are left of eight", x.look(10), 5);
        for (int i = 0; i < 5; i++) {
            yes("undo", x.undo());
        }
        no("no more", x.undo());
        due("hour", x.look(7), 17);
        x.hours(240);
        due("eight are kept", x.look(10), 8);
    }

    private static int[] sight(RopeToALake x) {
        int[] seen = new int[60];
        for (int i = 0; i < 16; i++) {
            seen[i] = i == 10 ? 0 : x.look(i);
        }
        for (int w = 0; w < 13; w++) {
            seen[16 + w] = x.of(0, w);
            seen[30 + w] = x.of(1, w);
        }
        seen[44] = x.pail(0, 3);
        seen[45] = x.pail(0, 4);
        seen[46] = x.part(0, 0);
        seen[47] = x.owes(0, 1);
        return seen;
    }

    private static RopeToALake twoHoursOn() {
        RopeToALake x = mill();
        x.farm(8, 0, 0, 0);
        x.splice(5000, 0, 0);
        x.hours(2);
        due("undoable", x.look(10), 2);
        return x;
    }

    private static void undoAndTellings() {
        RopeToALake x = twoHoursOn();
        x.turn(5, 1);
        x.log(0, 3);
        x.foes(0, 1, true);
        law(x, "share 4;", 1);
        x.state(99);
        x.image(true);
        x.best(0);
        x.bucket(0, 1, 1);
        x.farm(99, 0, 0, 0);
        x.tell(0, 0, 61);
        x.absent(0, 0, 0);
        x.splice(-1, 0, 0);
        x.mend(0, 0);
        x.notches(9);
        due("all of these forget nothing", x.look(10), 2);
        yes("undo", x.undo());
        due("turn stays", x.look(25), 1);
        due("log stays", x.slow(0, 0), 5);
        due("foes stay", x.peace(0), 2);
        due("law stays", x.of(0, 10), 4);
        due("a told state stays", x.look(15), 99);
        yes("undo", x.undo());
        due("a told state stays", x.look(15), 99);
        due("steps went back", x.look(9), 0);
        RopeToALake y = twoHoursOn();
        yes("undo", y.undo());
        due("a draw goes back", y.look(15), 1013904223);
        for (int i = 0; i < 9; i++) {
            RopeToALake z = twoHoursOn();
            switch (i) {
                case 0 -> z.bucket(1, 1, 1);
                case 1 -> z.farm(1, 0, 0, 0);
                case 2 -> z.tell(0, 0, 8);
                case 3 -> z.absent(0, 0, 1);
                case 4 -> z.splice(1, 0, 0);
                case 5 -> z.mend(0, 5);
                case 6 -> z.notches(8);
                case 7 -> z.tell(6, 0, 9);
                default -> z.tell(5, 1, NONE);
            }
            due("telling " + i + " forgets", z.look(10), 0);
            no("telling " + i + " forgets", z.undo());
        }
    }

    private static void images() {
        RopeToALake x = mill();
        x.farm(9, 0, 0, 4);
        x.splice(5000, 2, 1);
        x.absent(0, 1, 1);
        x.tell(5, 1, 1);
        x.tell(4, 0, 1);
        x.tell(7, 0, 2);
        x.tell(8, 0, 500);
        x.foes(0, 1, true);
        x.log(0, 3);
        law(x, "share farm+1;", 1);
        x.hours(30);
        int[] then = sight(x);
        yes("taken", x.image(true));
        due("taking forgets nothing", x.look(10), 8);
        int made = x.hours(100);
        int[] later = sight(x);
        yes("gone back to", x.image(false));
        due("nothing to undo", x.look(10), 0);
        same(then, sight(x));
        due("all goes on", x.hours(100), made);
        same(later, sight(x));
        x.notches(20);
        put(x, "share ?");
        x.text();
        x.feed(1, 2, 3, 4, 5);
        yes("more than once", x.image(false));
        same(then, sight(x));
        due("fault is not of the image", x.fault(1), 6);
        due("nor is the tape", x.feed(0, 0, 0, 0, 0), 40);
        due("notches", x.look(0), 8);
        due("field", x.look(51), 1);
        due("turn", x.look(20), 0);
        due("foes", x.peace(0), 2);
        due("logs", x.slow(0, 0), 5);
        no("absences", x.absent(0, 1, 1));
        due("all goes on", x.hours(100), made);
        same(later, sight(x));
        yes("taken anew", x.image(true));
        x.hours(3);
        x.image(false);
        same(later, sight(x));
    }

    private static void imageOfAllThatWasTold() {
        RopeToALake x = busy();
        RopeToALake y = busy();
        x.image(true);
        y.image(true);
        y.image(false);
        x.notches(8);
        for (int i = 0; i < 8; i++) {
            x.bucket(i, 1, 1);
            x.splice(5, 0, 0);
        }
        spareTellings(x);
        for (int i = 0; i < 30; i++) {
            x.absent(2, i, 1);
            x.log(2, 60);
        }
        law(x, "share 1 when not 1=1;share 77;share 88;", 3);
        x.image(false);
        sameSight(x, y);
        due("all goes on", x.hours(100), y.hours(100));
        sameSight(x, y);
        no("thirty absences", x.absent(7, 77, 8));
        for (int i = 9; i < 40; i++) {
            yes("logs", x.log(0, 1));
        }
        no("forty logs", x.log(0, 1));
    }

    private static void same(int[] due, int[] got) {
        for (int i = 0; i < due.length; i++) {
            due("as in the image, " + i, got[i], due[i]);
        }
    }

    private static void looks() {
        RopeToALake x = mill();
        x.tell(7, 0, 11);
        x.tell(8, 0, 12);
        x.splice(7, 0, 1);
        x.tell(5, 7, 0);
        law(x, "share 1;share 2;", 2);
        x.state(3);
        int[] due = {8, 1000, 0, 1, 1, 1, 0, 0, 0, 0, 0, 1000, 2, 11, 12, 3};
        for (int w = 0; w < due.length; w++) {
            due("look(" + w + ")", x.look(w), due[w]);
        }
        for (int h = 0; h < 24; h++) {
            due("turn", x.look(20 + h), 0);
        }
        for (int p = 0; p < 8; p++) {
            due("field", x.look(50 + p), p == 7 ? 0 : NONE);
        }
        for (int w : new int[] {-1, 16, 19, 44, 49, 58, 89, 90, MIN, MAX}) {
            due("another what", x.look(w), NO_SUCH);
        }
        x.notches(40);
        due("the last place", x.look(89), NONE);
        due("beyond", x.look(90), NO_SUCH);
    }
}
