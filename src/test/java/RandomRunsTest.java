import java.util.Random;

/** Holds RopeToALake against the Oracle over many random runs of calls; every run has its own seed. */
public final class RandomRunsTest {
    private static final int[] WILD = {Integer.MIN_VALUE, -100, -2, -1, 0, 1, 2, 5, 7, 8, 9, 10, 12, 13, 24, 39, 40,
        41, 60, 61, 99, 100, 240, 241, 400, 999, 1000, 1001, 9999, 10000, 99999, 100000, 9999999, 10000000,
        Integer.MAX_VALUE};

    private final Random r;
    private final RopeToALake x = new RopeToALake();
    private final Oracle y = new Oracle();
    private final StringBuilder calls = new StringBuilder();
    private boolean wrong = false;

    private RandomRunsTest(long seed) {
        r = new Random(seed);
    }

    public static void main(String[] args) {
        int runs = args.length > 0 ? Integer.parseInt(args[0]) : 3000;
        int bad = 0;
        for (long seed = 1; seed <= runs && bad < 3; seed++) {
            RandomRunsTest run = new RandomRunsTest(seed);
            if (!run.go()) {
                bad++;
                System.out.println("seed " + seed + ":\n" + run.calls);
            }
        }
        System.out.println(bad == 0 ? runs + " random runs agree" : "random runs differ");
        if (bad != 0) {
            System.exit(1);
        }
    }

    private boolean go() {
        int style = r.nextInt(4);
        setUp(style);
        for (int i = 0; i < 230 && !wrong; i++) {
            call(style);
        }
        return !wrong;
    }

    private void same(String call, long got, long due) {
        calls.append(call).append(" = ").append(got);
        if (got != due) {
            wrong = true;
            calls.append(", due is ").append(due);
        }
        calls.append('\n');
    }

    private void same(String call, boolean got, boolean due) {
        same(call, got ? 1L : 0L, due ? 1L : 0L);
    }

    /** Mostly within the bounds, now and then just beyond, now and then wild. */
    private int some(int low, int high) {
        int dice = r.nextInt(40);
        if (dice == 0) {
            return WILD[r.nextInt(WILD.length)];
        }
        if (dice == 1) {
            return r.nextBoolean() ? low - 1 : high + 1;
        }
        if (dice == 2) {
            return r.nextBoolean() ? low : high;
        }
        return low + r.nextInt(high - low + 1);
    }

    private int someFarm() {
        return some(0, Math.max(0, y.w.farms.size() - 1));
    }

    private void setUp(int style) {
        same("state", x.state(1), y.state(1));
        int n = 8 + 2 * r.nextInt(style == 0 ? 3 : 17);
        same("notches " + n, x.notches(n), y.notches(n));
        int v = r.nextInt(4) == 0 ? r.nextInt(200) : r.nextInt(9999999);
        same("lake " + v, x.tell(6, 0, v), y.tell(6, 0, v));
        int farms = style == 3 ? 5 + r.nextInt(5) : r.nextInt(5);
        for (int i = 0; i < farms; i++) {
            addFarm();
        }
        for (int i = r.nextInt(11); i > 0; i--) {
            addBucket();
        }
        for (int h = 0; h < 24; h++) {
            setTurn(h);
        }
        for (int p = 0; p < n; p++) {
            setField(p);
        }
        for (int i = style == 1 ? r.nextInt(5) : 0; i > 0; i--) {
            addSplice();
        }
        for (int i = style == 3 ? 12 : r.nextInt(4); i > 0; i--) {
            addAbsence();
        }
        setLaw();
    }

    private void addFarm() {
        int a = some(0, 60);
        int s = some(0, r.nextInt(3) == 0 ? 60 : 5);
        int w = some(0, r.nextInt(3) == 0 ? 9 : 1);
        int d = some(0, r.nextInt(3) == 0 ? 9999 : 20);
        same("farm " + a + " " + s + " " + w + " " + d, x.farm(a, s, w, d), y.farm(a, s, w, d));
    }

    private void addBucket() {
        int n = some(0, y.w.n - 1);
        int s = some(1, 99);
        int h = some(0, r.nextInt(3) == 0 ? 99 : 5);
        same("bucket " + n + " " + s + " " + h, x.bucket(n, s, h), y.bucket(n, s, h));
    }

    private void addSplice() {
        int s = some(0, r.nextInt(3) == 0 ? 99999 : 5000);
        int w = some(0, r.nextInt(3) == 0 ? 99 : 5);
        int p = some(0, 9999);
        same("splice " + s + " " + w + " " + p, x.splice(s, w, p), y.splice(s, w, p));
    }

    private void setTurn(int h) {
        int f = r.nextInt(8) == 0 ? -1 : someFarm();
        same("turn " + h + " " + f, x.turn(h, f), y.turn(h, f));
    }

    private void setField(int p) {
        int f = r.nextInt(3) == 0 ? -1 : someFarm();
        same("field " + p + " " + f, x.tell(5, p, f), y.tell(5, p, f));
    }

    private void addAbsence() {
        int f = someFarm();
        int d = some(Math.max(0, y.w.day - 1), Math.min(9999, y.w.day + 4));
        int b = someFarm();
        same("absent " + f + " " + d + " " + b, x.absent(f, d, b), y.absent(f, d, b));
    }

    private void setLaw() {
        String text = Oracle.randomText(r);
        for (int i = 0; i < text.length(); i += 20) {
            int[] n = new int[5];
            for (int k = 0; k < 20; k++) {
                int sign = i + k < text.length() ? text.charAt(i + k) : ' ';
                n[k / 4] = n[k / 4] << 8 | sign;
            }
            same("feed", x.feed(n[0], n[1], n[2], n[3], n[4]), y.feed(n));
        }
        int cut = r.nextInt(20) == 0 ? some(0, 400) : y.tape.size() - (20 - text.length() % 20) % 20;
        same("end " + cut, x.end(cut), y.end(cut));
        same("text <" + text + ">", x.text(), y.text());
        same("fault 0", x.fault(0), y.fault(0));
        same("fault 1", x.fault(1), y.fault(1));
    }

    private void call(int style) {
        switch (r.nextInt(34)) {
            case 0: if (r.nextInt(8) == 0) { int v = r.nextInt(); same("state " + v, x.state(v), y.state(v)); } break;
            case 1: if (r.nextInt(20) == 0) { setUp(style); } break;
            case 2: if (r.nextInt(4) == 0) { addBucket(); } break;
            case 3: if (r.nextInt(4) == 0) { addFarm(); } break;
            case 4: tellSome(); break;
            case 5: setTurn(some(0, 23)); break;
            case 6: addAbsence(); break;
            case 7: if (r.nextInt(4) == 0) { addSplice(); } break;
            case 8: mendSome(); break;
            case 9: setFoes(); break;
            case 10: feedRaw(); break;
            case 11: setLaw(); break;
            case 12: { int w = some(0, 1); same("fault " + w, x.fault(w), y.fault(w)); } break;
            case 13: case 14: case 15: case 16: passHours(); break;
            case 17: case 18: askFarm(); break;
            case 19: askBucket(); break;
            case 20: askSplice(); break;
            case 21: { int a = someFarm(); int b = someFarm(); same("owes " + a + " " + b, x.owes(a, b), y.owes(a, b)); } break;
            case 22: case 23: same("deals", x.deals(), y.deals()); break;
            case 24: if (r.nextInt(4) == 0) { askBest(); } break;
            case 25: { int w = r.nextBoolean() ? 0 : some(10, 13); same("peace " + w, x.peace(w), y.peace(w)); } break;
            case 26: { int f = someFarm(); int s = some(0, 60); same("log " + f + " " + s, x.log(f, s), y.log(f, s)); } break;
            case 27: { int f = someFarm(); int w = some(0, 1); same("slow " + f + " " + w, x.slow(f, w), y.slow(f, w)); } break;
            case 28: { int n = some(1, r.nextBoolean() ? 99999 : 999); same("breaks " + n, x.breaks(n), y.breaks(n)); } break;
            case 29: { int n = some(1, r.nextBoolean() ? 99999 : 999); int w = some(0, 1);
                same("lasting " + n + " " + w, x.lasting(n, w), y.lasting(n, w)); } break;
            case 30: case 31: same("undo", x.undo(), y.undo()); break;
            case 32: { boolean t = r.nextBoolean(); same("image " + t, x.image(t), y.image(t)); } break;
            default: lookAll(); break;
        }
    }

    private void tellSome() {
        int what = some(0, 8);
        int i = what <= 3 ? someFarm() : what == 4 ? some(0, 9) : some(0, y.w.n - 1);
        int[] most = {60, 10, 2, 30, 99, 8, 9999999, 60, 1000};
        int v = some(0, Oracle.in(what, 0, 8) ? most[what] : 5);
        same("tell " + what + " " + i + " " + v, x.tell(what, i, v), y.tell(what, i, v));
    }

    private void mendSome() {
        int s = some(0, Math.max(0, y.w.splices.size() - 1));
        int v = some(1, 3000);
        same("mend " + s + " " + v, x.mend(s, v), y.mend(s, v));
    }

    private void setFoes() {
        int a = someFarm();
        int b = someFarm();
        boolean are = r.nextInt(3) > 0;
        same("foes " + a + " " + b + " " + are, x.foes(a, b, are), y.foes(a, b, are));
    }

    private void feedRaw() {
        int a = r.nextInt();
        int times = r.nextInt(15) == 0 ? 21 : 1;
        for (int i = 0; i < times; i++) {
            same("feed " + a, x.feed(a, a, 1, 2, a), y.feed(a, a, 1, 2, a));
        }
        int n = some(0, 400);
        same("end " + n, x.end(n), y.end(n));
        if (r.nextBoolean()) {
            same("end 0", x.end(0), y.end(0));
        }
    }

    private void passHours() {
        int n = r.nextInt(4) == 0 ? some(1, 240) : some(1, 30);
        same("hours " + n, x.hours(n), y.hours(n));
    }

    private void askFarm() {
        int f = someFarm();
        for (int w = -1; w <= 13; w++) {
            same("of " + f + " " + w, x.of(f, w), y.of(f, w));
        }
    }

    private void askBucket() {
        int b = some(0, Math.max(0, y.w.buckets.size() - 1));
        for (int w = -1; w <= 5; w++) {
            same("pail " + b + " " + w, x.pail(b, w), y.pail(b, w));
        }
    }

    private void askSplice() {
        int s = some(0, Math.max(0, y.w.splices.size() - 1));
        for (int w = -1; w <= 3; w++) {
            same("part " + s + " " + w, x.part(s, w), y.part(s, w));
        }
    }

    private void askBest() {
        int w = r.nextBoolean() ? 0 : some(10, 13);
        same("best " + w, x.best(w), y.best(w));
    }

    private void lookAll() {
        for (int w = -1; w <= 91; w++) {
            same("look " + w, x.look(w), y.look(w));
        }
        int wild = WILD[r.nextInt(WILD.length)];
        same("look " + wild, x.look(wild), y.look(wild));
    }
}
