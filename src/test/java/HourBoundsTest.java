import java.util.List;
import java.util.function.Supplier;

/** The bounds that part 2 of the Terms and the promises 16, 17, 20, 28 and 29 name, a test for each sentence. */
public final class HourBoundsTest {
    private static final int NONE = Bounds.NONE;
    private static final int NO_SUCH = Bounds.NO_SUCH;
    private static final int MIN = Bounds.MIN;
    private static final int MAX = Bounds.MAX;

    public static void main(String[] args) {
        drawsWrap();
        drawsWithoutSign();
        drawsAtNight();
        frostBelowCold();
        noFrostByDay();
        drawsWithoutAFarm();
        stepsAtLeastNone();
        weedsOfOthers();
        stepsOfWhoPulls();
        noStepsWithoutAFarm();
        noStepsOfABrokenRope();
        bucketsByNumber();
        givesAll();
        takesUpToItsSize();
        dripsAsFarAsItHas();
        dripsOnAField();
        strengthAtLeastNone();
        brokenMeansNoMoreSteps();
        pulledStepsAreMade();
        owesAlsoWithNoSteps();
        owesNotIfBrokenAhead();
        midnightBehindHour23();
        shares();
        quotientsGoDownwards();
        restsGoOneByOne();
        troughKeepsIt();
        noDropIsLost();
        dry();
        drunkGoesBack();
        todayIsOver();
        weightsAheadOfShares();
        valuesOfWords();
        hoursFrom1To240();
        hoursRefused();
        lastDay();
        farmAnswers();
        owesRefused();
        undoOfEight();
        undoRefused();
        undoAllButWhatIsTold();
        tellingsForget();
        tellingsThatForgetNothing();
        undoneHoursAgain();
        imageAtFirst();
        imageOfAll();
        imageMoreThanOnce();
        Bounds.end();
    }

    private static int next(int state) {
        return 1664525 * state + 1013904223;
    }

    private static int drawn(int state) {
        return (next(state) >>> 8) % 1000;
    }

    /** A STATE out of which that is drawn next; of those whose next one is below 0, if that is asked. */
    private static int stateFor(int draw, boolean below) {
        int state = 0;
        while (drawn(state) != draw || next(state) < 0 != below) {
            state++;
        }
        return state;
    }

    private static void drawsWrap() {
        Bounds.sentence("it becomes 1664525 times itself + 1013904223 (ints, which wrap)");
        for (int state : new int[] {0, 1, -1, MAX, MIN, 123456789, -987654321}) {
            RopeToALake x = new RopeToALake();
            x.state(state);
            x.hours(1);
            long whole = 1664525L * state + 1013904223L;
            Bounds.due("STATE behind " + state, x.look(15), (int) whole);
        }
    }

    private static void drawsWithoutSign() {
        Bounds.sentence("then it is its highest 24 bits (without sign) modulo m");
        for (boolean below : new boolean[] {false, true}) {
            for (int draw : new int[] {0, 1, 499, 998, 999}) {
                int state = stateFor(draw, below);
                Bounds.due("steps with COLD " + draw, stepsInFrost(state, draw), 10);
                Bounds.due("steps with COLD one more", stepsInFrost(state, draw + 1), 4);
            }
        }
    }

    private static int stepsInFrost(int state, int cold) {
        RopeToALake x = Valleys.pulled(8, 10);
        x.state(state);
        x.tell(7, 0, 6);
        x.tell(8, 0, cold);
        return x.hours(1);
    }

    private static void drawsAtNight() {
        Bounds.sentence("first, if it is below 6 or above 20, a DRAW of 1000");
        RopeToALake x = new RopeToALake();
        for (int h = 0; h < 48; h++) {
            int was = x.look(15);
            boolean night = h % 24 < 6 || h % 24 > 20;
            x.hours(1);
            Bounds.due("STATE behind HOUR " + h % 24, x.look(15), night ? next(was) : was);
        }
    }

    private static void frostBelowCold() {
        Bounds.sentence("if that is below COLD, there is FROST");
        RopeToALake never = Valleys.pulled(8, 10);
        never.tell(7, 0, 10);
        never.tell(8, 0, 0);
        Bounds.due("COLD 0", never.hours(240), 2400);
        RopeToALake always = Valleys.pulled(8, 10);
        always.tell(7, 0, 10);
        always.tell(8, 0, 1000);
        Bounds.due("COLD 1000", always.hours(240), 10 * 15 * 10);
    }

    private static void noFrostByDay() {
        Bounds.sentence("(in other HOURS none, and no DRAW)");
        RopeToALake x = Valleys.pulled(8, 10);
        x.tell(7, 0, 60);
        x.tell(8, 0, 1000);
        for (int h = 0; h < 24; h++) {
            Bounds.due("steps of HOUR " + h, x.hours(1), h < 6 || h > 20 ? 0 : 10);
        }
    }

    private static void drawsWithoutAFarm() {
        Bounds.sentence("a DRAW of 1000: if that is below COLD");
        RopeToALake x = Valleys.pulled(8, 10);
        x.splice(0, 0, 0);
        x.hours(1);
        Bounds.due("STATE with a BROKEN rope", x.look(15), next(0));
        x.mend(0, 5);
        x.turn(1, NONE);
        x.hours(1);
        Bounds.due("STATE without a FARM", x.look(15), next(next(0)));
        x.tell(0, 0, 0);
        x.hours(1);
        Bounds.due("STATE with no STEPS", x.look(15), next(next(next(0))));
    }

    private static void stepsAtLeastNone() {
        Bounds.sentence("STEPS: its ARMS less SLOW, less all WEEDS of other FARMS together, less FROST if there is some; "
                + "0 at least");
        int[][] rows = {{60, 0, 0, 0, 60}, {60, 60, 0, 0, 0}, {60, 59, 0, 0, 1}, {0, 0, 0, 0, 0}, {0, 60, 9, 60, 0},
            {10, 4, 3, 2, 1}, {10, 4, 3, 3, 0}, {10, 4, 3, 4, 0}, {10, 4, 6, 0, 0}, {10, 4, 5, 0, 1}, {10, 4, 7, 0, 0},
            {10, 10, 0, 0, 0}, {10, 11, 0, 0, 0}, {60, 0, 9, 51, 0}, {60, 0, 9, 50, 1}, {60, 0, 0, 60, 0}};
        for (int[] row : rows) {
            RopeToALake x = Valleys.pulled(8, row[0]);
            x.tell(1, 0, row[1]);
            x.farm(0, 0, row[2], 0);
            x.tell(7, 0, row[3]);
            x.tell(8, 0, 1000);
            String name = "ARMS " + row[0] + ", SLOW " + row[1] + ", WEEDS " + row[2] + ", FROST " + row[3];
            Bounds.due("steps with " + name, x.hours(1), row[4]);
            Bounds.due("STEPS in all", x.look(9), row[4]);
            Bounds.due("PULLED", x.of(0, 5), row[4]);
        }
    }

    private static void weedsOfOthers() {
        Bounds.sentence("less all WEEDS of other FARMS together");
        RopeToALake x = Valleys.pulled(8, 60);
        x.tell(2, 0, 9);
        Bounds.due("its own don't count", x.hours(1), 60);
        for (int others = 1; others <= 8; others++) {
            x.farm(0, 0, 7, 0);
            Bounds.due(others + " others", x.hours(1), 60 - 7 * others);
        }
        x.tell(2, 8, 9);
        x.tell(2, 7, 9);
        Bounds.due("one step is left", x.hours(1), 0);
        x.tell(2, 7, 8);
        Bounds.due("one step is left", x.hours(1), 1);
    }

    private static void stepsOfWhoPulls() {
        Bounds.sentence("The FARM at the rope is the one whose TURN it is, or who pulls for it on that DAY.");
        RopeToALake x = Valleys.pulled(8, 10);
        x.farm(20, 3, 2, 0);
        x.tell(2, 0, 1);
        x.absent(0, 1, 1);
        Bounds.due("the DAY ahead", x.hours(24), 24 * 8);
        Bounds.due("on that DAY", x.hours(24), 24 * 16);
        Bounds.due("the DAY behind", x.hours(24), 24 * 8);
        Bounds.due("PULLED by 0", x.of(0, 5), 48 * 8);
        Bounds.due("PULLED by 1", x.of(1, 5), 24 * 16);
        Bounds.due("owes", x.owes(0, 1), 24);
    }

    private static void noStepsWithoutAFarm() {
        Bounds.sentence("none without a FARM, or if the rope is BROKEN");
        RopeToALake x = Valleys.pulled(8, 10);
        x.turn(3, NONE);
        Bounds.due("HOURS 0 to 2", x.hours(3), 30);
        Bounds.due("HOUR 3", x.hours(1), 0);
        Bounds.due("HOUR 4", x.hours(1), 10);
        Bounds.due("no FARMS at all", new RopeToALake().hours(240), 0);
        Bounds.due("FARMS, but no TURNS", Valleys.withFarms(9).hours(240), 0);
    }

    private static void noStepsOfABrokenRope() {
        Bounds.sentence("if the rope is BROKEN");
        for (int s = 0; s < 8; s++) {
            RopeToALake x = Valleys.pulled(8, 10);
            x.bucket(7, 5, 0);
            for (int i = 0; i < 8; i++) {
                x.splice(i == s ? 0 : 1, 0, 0);
            }
            Bounds.due("BROKEN by splice " + s, x.look(8), 1);
            Bounds.due("steps", x.hours(24), 0);
            Bounds.due("place", x.pail(0, 4), 7);
            x.mend(s, 1);
            Bounds.due("whole", x.look(8), 0);
            Bounds.due("steps", x.hours(1), 10);
        }
    }

    private static void bucketsByNumber() {
        Bounds.sentence("all BUCKETS are one place further; then by number each one");
        RopeToALake x = twoBuckets(7, 6);
        Bounds.due("0 has dripped ahead of 1, which takes it", x.pail(1, 3), 3);
        Bounds.due("0 is empty", x.pail(0, 3), 0);
        Bounds.due("LAKE", x.look(1), 0);
        RopeToALake y = twoBuckets(6, 7);
        Bounds.due("0 comes to an empty LAKE ahead of the drips of 1", y.pail(0, 3), 0);
        Bounds.due("1 is empty", y.pail(1, 3), 0);
        Bounds.due("LAKE", y.look(1), 3);
    }

    /** Two steps on: the bucket of notch 7 has taken all three drops and dripped them, that of notch 6 is at the lake. */
    private static RopeToALake twoBuckets(int notch0, int notch1) {
        RopeToALake x = Valleys.pulled(8, 1);
        x.bucket(notch0, 9, 3);
        x.bucket(notch1, 9, 3);
        x.tell(6, 0, 3);
        x.hours(2);
        return x;
    }

    private static void givesAll() {
        Bounds.sentence("at the TROUGH it gives all it has");
        for (int size : new int[] {1, 50, 99}) {
            RopeToALake x = Valleys.pulled(8, 1);
            x.bucket(7, size, 0);
            x.hours(4);
            Bounds.due("ahead", x.look(2), 0);
            x.hours(1);
            Bounds.due("given", x.look(2), size);
            Bounds.due("left", x.pail(0, 3), 0);
            x.hours(8);
            Bounds.due("given again", x.look(2), 2 * size);
        }
        RopeToALake holed = Valleys.pulled(8, 1);
        holed.bucket(7, 20, 5);
        holed.hours(5);
        Bounds.due("a HOLE does not drip at the TROUGH", holed.look(2), 5);
    }

    private static void takesUpToItsSize() {
        Bounds.sentence("at the LAKE it takes from it up to its SIZE, as far as there is some");
        for (int lake : new int[] {0, 1, 8, 9, 10, 1000}) {
            RopeToALake x = Valleys.pulled(8, 1);
            x.bucket(7, 9, 2);
            x.tell(6, 0, lake);
            x.hours(1);
            Bounds.due("taken of " + lake, x.pail(0, 3), Math.min(lake, 9));
            Bounds.due("left of " + lake, x.look(1), Math.max(0, lake - 9));
            Bounds.due("all drops together", x.look(11), lake);
        }
    }

    private static void dripsAsFarAsItHas() {
        Bounds.sentence("it drips: as many drops as its HOLE, as far as it has them");
        for (int hole : new int[] {0, 1, 8, 9, 10, 99}) {
            RopeToALake x = Valleys.pulled(8, 1);
            x.bucket(7, 9, hole);
            x.hours(2);
            int left = Math.max(0, 9 - hole);
            Bounds.due("left with a HOLE of " + hole, x.pail(0, 3), left);
            Bounds.due("back in the LAKE", x.look(1), 100000 - left);
            x.hours(1);
            Bounds.due("left with a HOLE of " + hole, x.pail(0, 3), Math.max(0, left - hole));
        }
    }

    private static void dripsOnAField() {
        Bounds.sentence("on the FARM whose FIELD is there (they are that FARM's then), else back to the LAKE");
        for (int place = 1; place < 8; place++) {
            RopeToALake x = Valleys.pulled(8, 1);
            x.farm(0, 0, 0, 0);
            x.bucket(7, 70, 10);
            boolean isLand = x.tell(5, place, 1);
            x.hours(8);
            int due = isLand && place < 4 ? 10 : 0;
            Bounds.due("drops of 1 with its FIELD at " + place, x.of(1, 4), due);
            Bounds.due("dripped in all", x.of(1, 7), due);
            Bounds.due("dripped TODAY", x.of(1, 8), due);
            Bounds.due("drops of 0", x.of(0, 4), 0);
            Bounds.due("TROUGH", x.look(2), 40);
            Bounds.due("LAKE", x.look(1), 100000 - 40 - due);
        }
        for (int owner = 0; owner < 9; owner++) {
            RopeToALake x = Valleys.pulled(8, 2);
            for (int f = 1; f < 9; f++) {
                x.farm(0, 0, 0, 0);
            }
            x.bucket(7, 9, 2);
            x.tell(5, 1, owner);
            x.hours(1);
            for (int f = 0; f < 9; f++) {
                Bounds.due("drops of " + f + " with the FIELD of " + owner, x.of(f, 4), f == owner ? 2 : 0);
            }
            Bounds.due("LAKE", x.look(1), 100000 - 9);
        }
    }

    private static void strengthAtLeastNone() {
        Bounds.sentence("Then each SPLICE has its WEAR less STRENGTH (0 at least)");
        int[][] rows = {{1, 1, 1}, {2, 1, 2}, {9, 9, 1}, {10, 9, 2}, {8, 9, 1}, {1, 99, 1}, {99, 99, 1}, {100, 99, 2},
            {1, 0, 20}, {99999, 0, 20}, {19, 1, 19}, {20, 1, 20}, {21, 1, 20}, {99999, 99, 20}};
        for (int[] row : rows) {
            RopeToALake x = Valleys.pulled(8, 20);
            x.splice(row[0], row[1], 0);
            String name = "STRENGTH " + row[0] + ", WEAR " + row[1];
            Bounds.due("steps with " + name, x.hours(1), row[2]);
            Bounds.due("left of " + name, x.part(0, 0), Math.max(0, row[0] - row[1] * row[2]));
            Bounds.due("BROKEN with " + name, x.look(8), Bounds.bit(row[0] <= row[1] * row[2]));
        }
    }

    private static void brokenMeansNoMoreSteps() {
        Bounds.sentence("if one has 0 now, the rope is BROKEN (till it is put in anew): no more STEPS");
        RopeToALake x = Valleys.pulled(8, 20);
        x.bucket(7, 5, 0);
        x.splice(100, 7, 0);
        x.splice(9, 3, 0);
        x.splice(5, 2, 0);
        Bounds.due("steps", x.hours(1), 3);
        Bounds.due("the step that breaks it is a whole one", x.pail(0, 4), 2);
        Bounds.due("each SPLICE has its WEAR of it", x.part(0, 0), 79);
        Bounds.due("two are at 0", x.part(1, 0) + x.part(2, 0), 0);
        Bounds.due("no more steps", x.hours(23), 0);
        x.mend(1, 1000);
        Bounds.due("one of both is not enough", x.hours(1), 0);
        x.mend(2, 1000);
        Bounds.due("whole again", x.hours(1), 12);
    }

    private static void pulledStepsAreMade() {
        Bounds.sentence("PULLED: STEPS that a FARM made.");
        RopeToALake x = Valleys.pulled(8, 20);
        x.splice(7, 1, 0);
        x.hours(2);
        Bounds.due("not those it would have made", x.of(0, 5), 7);
        Bounds.due("TODAY", x.of(0, 6), 7);
        Bounds.due("STEPS in all", x.look(9), 7);
    }

    private static void owesAlsoWithNoSteps() {
        Bounds.sentence("that one OWES it one HOUR more (also with no STEPS, but not if the rope was BROKEN ahead of the HOUR)");
        RopeToALake x = Valleys.pulled(8, 20);
        x.farm(0, 0, 0, 0);
        x.absent(0, 0, 1);
        Bounds.due("no steps", x.hours(1), 0);
        Bounds.due("owes", x.owes(0, 1), 1);
        x.tell(0, 1, 5);
        Bounds.due("steps", x.hours(1), 5);
        Bounds.due("one HOUR, however many STEPS", x.owes(0, 1), 2);
        Bounds.due("not the other way", x.owes(1, 0), 0);
        x.turn(2, 1);
        x.turn(3, NONE);
        x.hours(2);
        Bounds.due("not for its own HOUR, nor for nobody's", x.owes(0, 1), 2);
    }

    private static void owesNotIfBrokenAhead() {
        Bounds.sentence("but not if the rope was BROKEN ahead of the HOUR");
        RopeToALake x = Valleys.pulled(8, 20);
        x.farm(5, 0, 0, 0);
        x.absent(0, 0, 1);
        x.splice(5, 1, 0);
        Bounds.due("steps", x.hours(1), 5);
        Bounds.due("BROKEN by the HOUR's last step", x.look(8), 1);
        Bounds.due("owes for that HOUR", x.owes(0, 1), 1);
        x.hours(5);
        Bounds.due("owes nothing more", x.owes(0, 1), 1);
        x.mend(0, 1);
        x.hours(1);
        Bounds.due("owes for an HOUR of one step", x.owes(0, 1), 2);
        x.hours(1);
        Bounds.due("owes nothing more", x.owes(0, 1), 2);
    }

    private static void midnightBehindHour23() {
        Bounds.sentence("Behind HOUR 23 it is MIDNIGHT: the TROUGH is SHARED");
        RopeToALake x = Valleys.pulled(8, 1);
        x.bucket(7, 5, 0);
        Valleys.law(x, "share 1;");
        for (int h = 0; h < 24; h++) {
            Bounds.due("HOUR", x.look(7), h);
            Bounds.due("DAY", x.look(6), 0);
            Bounds.due("drops", x.of(0, 4), 0);
            x.hours(1);
        }
        Bounds.due("HOUR", x.look(7), 0);
        Bounds.due("DAY", x.look(6), 1);
        Bounds.due("drops", x.of(0, 4), 15);
        Bounds.due("TROUGH", x.look(2), 0);
    }

    /** Farms with a trough of so much, told weights by law, behind a midnight. */
    private static RopeToALake shared(int trough, String law, int farms) {
        RopeToALake x = new RopeToALake();
        x.notches(8);
        x.bucket(7, 99, 0);
        for (int f = 0; f < farms; f++) {
            x.farm(f == 0 ? 5 : 0, 0, 0, 0);
        }
        x.tell(6, 0, trough);
        x.turn(7, 0);
        x.hours(23);
        Bounds.due("TROUGH ahead", x.look(2), trough);
        Valleys.law(x, law);
        x.hours(1);
        Bounds.due("all drops together", x.look(11), trough);
        return x;
    }

    private static void shares() {
        Bounds.sentence("each FARM gets TROUGH times its WEIGHT by all WEIGHTS");
        RopeToALake x = shared(96, "share farm+1;", 3);
        Bounds.due("farm 0", x.of(0, 4), 16);
        Bounds.due("farm 1", x.of(1, 4), 32);
        Bounds.due("farm 2", x.of(2, 4), 48);
        RopeToALake most = shared(99, "share 9999;", 9);
        for (int f = 0; f < 9; f++) {
            Bounds.due("farm " + f, most.of(f, 4), 11);
        }
        RopeToALake one = shared(99, "share 1;", 1);
        Bounds.due("all for one", one.of(0, 4), 99);
        RopeToALake none = shared(0, "share 1;", 3);
        Bounds.due("an empty TROUGH", none.of(0, 4) + none.of(1, 4) + none.of(2, 4), 0);
    }

    private static void quotientsGoDownwards() {
        Bounds.sentence("Quotients go downwards (to the lesser one).");
        // 99 by 9998 and 1: 98 rest 9901 and 0 rest 99; a quotient that went upwards would give a hundred drops
        RopeToALake x = shared(99, "share 9998-9997*farm;", 2);
        Bounds.due("farm 0", x.of(0, 4), 99);
        Bounds.due("farm 1", x.of(1, 4), 0);
    }

    private static void restsGoOneByOne() {
        Bounds.sentence("what is left goes one by one to those with the greatest rest, of several the lesser number");
        for (int trough = 81; trough <= 99; trough++) {
            RopeToALake x = shared(trough, "share 7;", 9);
            for (int f = 0; f < 9; f++) {
                Bounds.due("farm " + f + " of " + trough, x.of(f, 4), trough / 9 + (f < trough % 9 ? 1 : 0));
            }
        }
        // 10 by 1, 2, 4: 1 rest 3, 2 rest 6, 5 rest 5; the two left to farms 1 and 2
        RopeToALake x = shared(10, "share 1 when farm=0;share farm*2;", 3);
        Bounds.due("farm 0", x.of(0, 4), 1);
        Bounds.due("farm 1", x.of(1, 4), 3);
        Bounds.due("farm 2", x.of(2, 4), 6);
        // 10 by 1, 2, 3: 1 rest 4, 3 rest 2, 5 rest 0; the one left to farm 0, the least WEIGHT of all
        RopeToALake w = shared(10, "share farm+1;", 3);
        Bounds.due("farm 0", w.of(0, 4), 2);
        Bounds.due("farm 1", w.of(1, 4), 3);
        Bounds.due("farm 2", w.of(2, 4), 5);
        // 1 by 4, 5, 5: rests 4, 5, 5; the one to farm 1
        RopeToALake y = shared(1, "share 4 when farm=0;share 5;", 3);
        Bounds.due("farm 1", y.of(1, 4), 1);
        // 3 by 0, 1, 1, 0, 0: 1 rest 1 each; the one left to farm 1, none to those of no WEIGHT
        RopeToALake z = shared(3, "share 1 when farm>0 and farm<3;", 5);
        Bounds.due("farm 0", z.of(0, 4), 0);
        Bounds.due("farm 1", z.of(1, 4), 2);
        Bounds.due("farm 2", z.of(2, 4), 1);
        Bounds.due("farm 4", z.of(4, 4), 0);
    }

    private static void troughKeepsIt() {
        Bounds.sentence("if all WEIGHTS are 0, the TROUGH keeps it");
        for (String law : new String[] {"", "share 0;", "share 0-1;", "share 1 when 1=2;", "share 1 when farm=5;"}) {
            RopeToALake x = shared(50, law, 3);
            Bounds.due("TROUGH by " + law, x.look(2), 50);
            Bounds.due("drops by " + law, x.of(0, 4) + x.of(1, 4) + x.of(2, 4), 0);
        }
        RopeToALake x = shared(50, "share 1 when farm=2;", 3);
        Bounds.due("one WEIGHT of 1 is enough", x.of(2, 4), 50);
        Bounds.due("TROUGH", x.look(2), 0);
        RopeToALake y = shared(50, "", 3);
        Valleys.law(y, "share 1;");
        y.turn(7, NONE);
        y.hours(24);
        Bounds.due("it is there the next MIDNIGHT", y.of(0, 4), 17);
    }

    private static void noDropIsLost() {
        Bounds.sentence("No drop is lost.");
        for (Supplier<RopeToALake> maker : List.<Supplier<RopeToALake>>of(Valleys::busy, Valleys::full)) {
            RopeToALake x = maker.get();
            int all = x.look(11);
            for (int i = 0; i < 60; i++) {
                x.hours(1 + 4 * i);
                int sum = x.look(1) + x.look(2);
                for (int k = 0; k < 10; k++) {
                    sum += Math.max(0, x.pail(k, 3)) + Math.max(0, x.of(k, 4));
                }
                Bounds.due("all drops together", x.look(11), all);
                Bounds.due("all drops added", sum, all);
            }
        }
    }

    private static void dry() {
        Bounds.sentence("if it has less, it drinks all and was DRY that DAY (DRY DAYS are counted)");
        for (int need : new int[] {0, 49, 50, 51, 9999}) {
            RopeToALake x = new RopeToALake();
            x.notches(8);
            x.bucket(7, 50, 0);
            x.farm(5, 0, 0, need);
            x.tell(6, 0, 50);
            x.turn(7, 0);
            Valleys.law(x, "share 1;");
            x.hours(24);
            Bounds.due("DRY DAYS with NEED " + need, x.of(0, 9), need > 50 ? 1 : 0);
            Bounds.due("drops left with NEED " + need, x.of(0, 4), Math.max(0, 50 - need));
            Bounds.due("back in the LAKE", x.look(1), Math.min(need, 50));
            x.turn(7, NONE);
            x.hours(48);
            Bounds.due("DRY DAYS, two on", x.of(0, 9), need > 50 ? 3 : need > 25 ? 2 : 0);
        }
    }

    private static void drunkGoesBack() {
        Bounds.sentence("what is drunk goes back to the LAKE");
        RopeToALake x = Valleys.full();
        x.hours(24 - x.look(7) - 1);
        x.turn(23, NONE);
        x.end(0);
        Valleys.law(x, "share 0;");
        int lake = x.look(1);
        int due = 0;
        for (int f = 0; f < 9; f++) {
            due += Math.min(x.of(f, 4), x.of(f, 3));
        }
        x.hours(1);
        Bounds.due("some was drunk", Bounds.bit(due > 0), 1);
        Bounds.due("LAKE", x.look(1), lake + due);
    }

    private static void todayIsOver() {
        Bounds.sentence("Then DAY is one more, what was PULLED and dripped TODAY is 0.");
        RopeToALake x = Valleys.pulled(8, 2);
        x.bucket(7, 9, 1);
        x.tell(5, 1, 0);
        x.hours(23);
        Bounds.due("PULLED TODAY", x.of(0, 6), 46);
        Bounds.due("dripped TODAY", x.of(0, 8), 6);
        x.hours(1);
        Bounds.due("PULLED TODAY", x.of(0, 6), 0);
        Bounds.due("dripped TODAY", x.of(0, 8), 0);
        Bounds.due("PULLED in all", x.of(0, 5), 48);
        Bounds.due("dripped in all", x.of(0, 7), 6);
        x.hours(1);
        Bounds.due("PULLED TODAY, an HOUR on", x.of(0, 6), 2);
        x.undo();
        x.undo();
        Bounds.due("PULLED TODAY, the DAY ahead again", x.of(0, 6), 46);
        Bounds.due("dripped TODAY, the DAY ahead again", x.of(0, 8), 6);
    }

    private static void weightsAheadOfShares() {
        Bounds.sentence("pulled, wet: STEPS it made, drops that dripped on it TODAY");
        RopeToALake x = shared(90, "share pulled;", 3);
        Bounds.due("what was PULLED TODAY counts at its MIDNIGHT", x.of(0, 4), 90);
        RopeToALake y = shared(90, "share drops+1;", 3);
        Bounds.due("drops as they were ahead of all shares", y.of(2, 4), 30);
        RopeToALake z = shared(90, "share day;", 3);
        Bounds.due("the DAY that ends counts", z.look(2), 90);
        RopeToALake d = shared(90, "share dry;", 3);
        Bounds.due("DRY DAYS ahead of this one", d.look(2), 90);
    }

    private static void valuesOfWords() {
        Bounds.sentence("farm: its number; pulled, wet: STEPS it made, drops that dripped on it TODAY; arms, weeds, need; "
                + "drops it has; dry: DRY DAYS; owes: HOURS it OWES to others together; day.");
        RopeToALake x = Valleys.withFarms(8);
        x.farm(40, 2, 3, 100);
        x.bucket(11, 60, 7);
        x.tell(6, 0, 1000);
        x.tell(5, 1, 8);
        x.absent(8, 0, 7);
        x.turn(0, 8);
        x.turn(1, 8);
        x.hours(72);
        x.tell(3, 8, 99);
        x.hours(2);
        String[] words = {"farm", "pulled", "arms", "weeds", "need", "drops", "wet", "dry", "owes", "day"};
        int[] due = {8, 76, 40, 3, 99, x.of(8, 4), x.of(8, 8), 3, 2, 3};
        for (int i = 0; i < words.length; i++) {
            Valleys.law(x, "share " + words[i] + ";");
            Bounds.due("WEIGHT by " + words[i], x.of(8, 10), due[i]);
            Bounds.due(words[i] + " is not 0", Bounds.bit(due[i] != 0), 1);
        }
        Bounds.due("PULLED TODAY is not PULLED in all", Bounds.bit(x.of(8, 5) != 76), 1);
        Bounds.due("dripped TODAY is not dripped in all", Bounds.bit(x.of(8, 7) != x.of(8, 8)), 1);
    }

    private static void hoursFrom1To240() {
        Bounds.sentence("HOURS go by (1 .. 240): how many STEPS were made.");
        RopeToALake x = Valleys.pulled(8, 60);
        Bounds.due("hours(1)", x.hours(1), 60);
        Bounds.due("HOUR", x.look(7), 1);
        Bounds.due("hours(240)", x.hours(240), 14400);
        Bounds.due("HOUR", x.look(7), 1);
        Bounds.due("DAY", x.look(6), 10);
        Bounds.due("STEPS in all", x.look(9), 14460);
        RopeToALake once = Valleys.busy();
        RopeToALake one = Valleys.busy();
        once.hours(240);
        for (int i = 0; i < 240; i++) {
            one.hours(1);
        }
        Bounds.sameFuture("hours(240), as 240 times hours(1)", once, one);
    }

    private static void hoursRefused() {
        Bounds.sentence("NONE, and nothing is done, if one can't be, or DAY would be above 9999 behind them.");
        for (int n : new int[] {MIN, -240, -1, 0, 241, 242, 1000, MAX}) {
            Bounds.refused("hours(" + n + ")", NONE, x -> x.hours(n));
        }
    }

    /** No 512 calls come that far; what is told is tested all the same. */
    private static void lastDay() {
        Bounds.sentence("DAY 0 .. 9999, HOUR 0 .. 23 (0, 0 at first)");
        Bounds.due("to DAY 9990", lateValley().look(6), 9990);
        for (int n : new int[] {240, 239, 238, 24 * 9 + 23, 24 * 9 + 24}) {
            RopeToALake x = lateValley();
            boolean can = n < 240;
            Bounds.due("hours(" + n + ") from DAY 9990", x.hours(n) == NONE ? 0 : 1, Bounds.bit(can));
            Bounds.due("DAY", x.look(6), can ? 9999 : 9990);
            Bounds.due("HOUR", x.look(7), can ? n % 24 : 0);
            Bounds.due("what can be undone", x.look(10), can ? 8 : 0);
        }
        RopeToALake x = lateValley();
        x.hours(239);
        int state = x.look(15);
        for (int n : new int[] {1, 2, 24, 240}) {
            Bounds.due("hours(" + n + ") from the last HOUR", x.hours(n), NONE);
        }
        Bounds.due("STATE", x.look(15), state);
        Bounds.yes("undo()", x.undo());
        Bounds.due("HOUR", x.look(7), 22);
        Bounds.due("hours(2)", x.hours(2), NONE);
        Bounds.due("hours(1)", x.hours(1), 3);
        Bounds.due("HOUR", x.look(7), 23);
    }

    /** At the first hour of day 9990, with nothing to undo. */
    private static RopeToALake lateValley() {
        RopeToALake x = Valleys.pulled(8, 3);
        for (int i = 0; i < 999; i++) {
            x.hours(240);
        }
        x.tell(7, 0, 0);
        return x;
    }

    private static void farmAnswers() {
        Bounds.sentence("12 HOURS owed to it together. NONE - 1 if there is none such, or another what.");
        RopeToALake x = Valleys.busy();
        for (int f : new int[] {MIN, -1, 3, 9, MAX}) {
            for (int w = -1; w <= 13; w++) {
                Bounds.due("of(" + f + ", " + w + ")", x.of(f, w), NO_SUCH);
            }
        }
        for (int w : new int[] {MIN, -1, 13, MAX}) {
            Bounds.due("of(2, " + w + ")", x.of(2, w), NO_SUCH);
        }
        for (int w = 0; w <= 12; w++) {
            Bounds.due("of(2, " + w + ") is there", Bounds.bit(x.of(2, w) >= 0), 1);
        }
        Bounds.due("the last of nine", Valleys.full().of(8, 0), 60);
        Bounds.due("the tenth", Valleys.full().of(9, 0), NO_SUCH);
        Bounds.asked(Valleys::busy, "of", y -> y.of(2, 10) + y.of(3, 10) + y.of(0, 13));
    }

    private static void owesRefused() {
        Bounds.sentence("HOURS that FARM a OWES b; NONE if one can't be (the same).");
        RopeToALake x = Valleys.busy();
        for (int f : new int[] {MIN, -1, 3, 9, MAX}) {
            Bounds.due("owes(0, " + f + ")", x.owes(0, f), NONE);
            Bounds.due("owes(" + f + ", 0)", x.owes(f, 0), NONE);
            Bounds.due("owes(" + f + ", the same)", x.owes(f, f), NONE);
        }
        for (int f = 0; f < 3; f++) {
            Bounds.due("owes(" + f + ", the same)", x.owes(f, f), NONE);
        }
        Bounds.due("owes(0, 2)", x.owes(0, 2), 0);
        Bounds.due("owes(2, 1)", x.owes(2, 1), 0);
        Bounds.due("owes(8, 7) of nine", Valleys.full().owes(8, 7), 0);
        Bounds.due("owes(8, 5) of nine is more", Bounds.bit(Valleys.full().owes(8, 5) > 0), 1);
    }

    private static void undoOfEight() {
        Bounds.sentence("the latest HOUR not undone yet goes back (all but what is told): 8 are kept");
        for (int hours : new int[] {1, 7, 8, 9, 24, 240}) {
            RopeToALake x = drinkingValley();
            x.hours(hours);
            int kept = Math.min(hours, 8);
            for (int back = 1; back <= kept; back++) {
                Bounds.due("what can be undone", x.look(10), kept - back + 1);
                Bounds.yes("undo()", x.undo());
                RopeToALake y = drinkingValley();
                for (int i = 0; i < hours - back; i++) {
                    y.hours(1);
                }
                Bounds.sameButKept(back + " of " + hours + " undone", x, y);
            }
            Bounds.due("nothing is left", x.look(10), 0);
            Bounds.no("undo()", x.undo());
        }
    }

    private static RopeToALake drinkingValley() {
        RopeToALake x = Valleys.pulled(8, 3);
        x.farm(4, 1, 1, 30);
        x.absent(0, 0, 1);
        x.bucket(7, 9, 1);
        x.splice(9999, 2, 0);
        x.tell(3, 0, 2);
        x.tell(5, 2, 0);
        x.tell(7, 0, 1);
        x.tell(8, 0, 500);
        Valleys.law(x, "share 1;");
        return x;
    }

    private static void undoRefused() {
        Bounds.sentence("UNDO: true; false if there is nothing.");
        Bounds.refusedIn(Valleys::bare, "undo()", 0, x -> Bounds.bit(x.undo()));
        Supplier<RopeToALake> spent = () -> {
            RopeToALake x = Valleys.full();
            for (int i = 0; i < 8; i++) {
                Bounds.yes("undo()", x.undo());
            }
            return x;
        };
        Bounds.refusedIn(spent, "the ninth undo()", 0, x -> Bounds.bit(x.undo()));
        Supplier<RopeToALake> told = () -> {
            RopeToALake x = Valleys.full();
            x.tell(6, 0, 5);
            return x;
        };
        Bounds.refusedIn(told, "undo() behind a telling", 0, x -> Bounds.bit(x.undo()));
        Supplier<RopeToALake> back = () -> {
            RopeToALake x = Valleys.full();
            x.image(false);
            return x;
        };
        Bounds.refusedIn(back, "undo() behind an image", 0, x -> Bounds.bit(x.undo()));
    }

    private static void undoAllButWhatIsTold() {
        Bounds.sentence("goes back (all but what is told)");
        RopeToALake x = Valleys.pulled(8, 3);
        x.farm(3, 0, 0, 0);
        x.hours(3);
        x.turn(7, 1);
        x.log(0, 2);
        x.foes(0, 1, true);
        Valleys.law(x, "share 5;");
        x.feed(1, 2, 3, 4, 5);
        Bounds.yes("undo()", x.undo());
        Bounds.due("TURN", x.look(27), 1);
        Bounds.due("LOG", x.slow(0, 0), 1);
        Bounds.due("FOES", x.peace(0), 2);
        Bounds.due("THE LAW", x.of(0, 10), 5);
        Bounds.due("the TAPE", x.feed(1, 2, 3, 4, 5), 40);
        Bounds.due("HOUR", x.look(7), 2);
    }

    private static void tellingsForget() {
        Bounds.sentence("whatever is told but texts, TURNS, LOGS, FOES forgets them");
        forgets("notches", x -> Bounds.bit(x.notches(14)));
        forgets("bucket", x -> x.bucket(3, 5, 5));
        forgets("farm", x -> x.farm(0, 0, 0, 0));
        forgets("absent", x -> Bounds.bit(x.absent(0, 50, 1)));
        forgets("splice", x -> x.splice(5, 0, 0));
        forgets("mend", x -> Bounds.bit(x.mend(1, 9000)));
        for (int what = 0; what <= 8; what++) {
            int w = what;
            forgets("tell " + what, x -> Bounds.bit(x.tell(w, 1, 1)));
        }
        forgets("a FIELD of none", x -> Bounds.bit(x.tell(5, 1, NONE)));
        forgets("what is so already", x -> Bounds.bit(x.tell(7, 0, x.look(13))));
        forgets("image(false)", x -> Bounds.bit(x.image(false)));
    }

    private static void forgets(String name, Bounds.Call call) {
        RopeToALake x = Valleys.busy();
        Bounds.due("what can be undone ahead of " + name, x.look(10), 5);
        Bounds.due(name + " is taken", Bounds.bit(call.on(x) != NONE), 1);
        Bounds.due("what can be undone behind " + name, x.look(10), 0);
        Bounds.no("undo() behind " + name, x.undo());
    }

    private static void tellingsThatForgetNothing() {
        Bounds.sentence("but texts, TURNS, LOGS, FOES");
        keeps("text", x -> x.text());
        keeps("a text with a FAULT", x -> x.feed(1, 1, 1, 1, 1) + x.text());
        keeps("feed", x -> x.feed(1, 2, 3, 4, 5));
        keeps("end", x -> Bounds.bit(x.end(0)));
        keeps("turn", x -> Bounds.bit(x.turn(3, 1)));
        keeps("nobody's turn", x -> Bounds.bit(x.turn(3, NONE)));
        keeps("log", x -> Bounds.bit(x.log(0, 0)));
        keeps("foes", x -> Bounds.bit(x.foes(0, 2, true)));
        keeps("no foes", x -> Bounds.bit(x.foes(0, 1, false)));
        keeps("state", x -> x.state(1));
        keeps("image(true)", x -> Bounds.bit(x.image(true)));
    }

    private static void keeps(String name, Bounds.Call call) {
        RopeToALake x = Valleys.busy();
        call.on(x);
        Bounds.due("what can be undone behind " + name, x.look(10), 5);
        int hour = x.look(7);
        for (int i = 1; i <= 5; i++) {
            Bounds.yes("undo() behind " + name, x.undo());
            Bounds.due("HOUR", x.look(7), (hour - i + 24) % 24);
        }
        Bounds.no("undo() behind " + name, x.undo());
    }

    private static void undoneHoursAgain() {
        Bounds.sentence("the latest HOUR not undone yet goes back");
        RopeToALake x = Valleys.full();
        for (int i = 0; i < 3; i++) {
            Bounds.yes("undo()", x.undo());
        }
        x.hours(3);
        Bounds.sameFuture("three HOURS undone and gone by again", x, Valleys.full());
        RopeToALake y = Valleys.pulled(8, 3);
        y.hours(8);
        for (int i = 0; i < 8; i++) {
            y.undo();
        }
        y.hours(5);
        Bounds.due("what can be undone", y.look(10), 5);
        y.undo();
        y.hours(9);
        Bounds.due("what can be undone", y.look(10), 8);
        for (int i = 0; i < 8; i++) {
            y.undo();
        }
        Bounds.due("HOUR", y.look(7), 5);
        Bounds.due("STEPS in all", y.look(9), 15);
    }

    private static void imageAtFirst() {
        Bounds.sentence("THE IMAGE is taken (true), or gone back to (false): true; false if there is none.");
        Bounds.refusedIn(Valleys::bare, "image(false)", 0, x -> Bounds.bit(x.image(false)));
        Supplier<RopeToALake> unseen = () -> {
            RopeToALake x = Valleys.pulled(8, 3);
            x.hours(30);
            return x;
        };
        Bounds.refusedIn(unseen, "image(false)", 0, x -> Bounds.bit(x.image(false)));
        RopeToALake x = unseen.get();
        Bounds.yes("image(true)", x.image(true));
        Bounds.yes("image(true) again", x.image(true));
        Bounds.yes("image(false)", x.image(false));
        Bounds.due("HOUR", x.look(7), 6);
        RopeToALake empty = new RopeToALake();
        Bounds.yes("an image of nothing", empty.image(true));
        empty.notches(40);
        empty.farm(1, 1, 1, 1);
        Bounds.yes("gone back to", empty.image(false));
        Bounds.due("NOTCHES", empty.look(0), 12);
        Bounds.due("FARMS", empty.look(4), 0);
    }

    private static void imageOfAll() {
        Bounds.sentence("all that is and was told but the TAPE, fault() and what can be undone (nothing then), "
                + "as it was when it was taken");
        for (Supplier<RopeToALake> maker : List.<Supplier<RopeToALake>>of(Valleys::bare, Valleys::busy, Valleys::full)) {
            RopeToALake x = maker.get();
            x.image(true);
            tellAllElse(x);
            Bounds.yes("image(false)", x.image(false));
            Bounds.due("what can be undone", x.look(10), 0);
            RopeToALake y = maker.get();
            y.image(true);
            y.tell(7, 0, y.look(13));
            for (RopeToALake both : new RopeToALake[] {x, y}) {
                both.end(0);
                Valleys.feedBusy(both);
            }
            Bounds.sameFuture("image(false)", x, y);
        }
        RopeToALake x = Valleys.busy();
        x.image(true);
        Valleys.put(x, "share 1/0;");
        x.text();
        x.feed(1, 2, 3, 4, 5);
        x.image(false);
        Bounds.due("fault(0) stays", x.fault(0), 2);
        Bounds.due("fault(1) stays", x.fault(1), 16);
        Bounds.due("the TAPE stays", x.feed(1, 2, 3, 4, 5), 40);
    }

    private static void tellAllElse(RopeToALake x) {
        x.notches(8);
        x.end(0);
        for (int i = 0; i < 8; i++) {
            x.bucket(i, 1, 1);
            x.farm(9, 9, 9, 9);
            x.splice(7, 1, 7);
            x.log(i, 3);
            x.absent(i, i, i - 1);
            x.turn(i, i);
            x.foes(i, i - 1, true);
        }
        x.tell(7, 0, 33);
        x.tell(8, 0, 333);
        x.state(12345);
        Valleys.law(x, "share 1;share 2;share 3;");
        x.hours(100);
    }

    private static void imageMoreThanOnce() {
        Bounds.sentence("gone back to it may be more than once");
        RopeToALake x = Valleys.full();
        x.image(true);
        for (int i = 0; i < 4; i++) {
            x.hours(10 + 30 * i);
            x.notches(8 + 2 * i);
            Bounds.yes("image(false)", x.image(false));
            RopeToALake y = Valleys.full();
            y.image(true);
            y.image(false);
            Bounds.sameSight("image(false) number " + i, x, y);
        }
        x.hours(7);
        x.image(true);
        RopeToALake later = Valleys.full();
        later.image(true);
        later.image(false);
        later.hours(7);
        later.image(true);
        x.hours(9);
        x.image(false);
        later.image(false);
        Bounds.sameFuture("an image taken anew", x, later);
    }
}
