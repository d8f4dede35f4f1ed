/** The bounds that part 4 of the Terms and the promises 21 to 27 and 30 name, a test for each sentence. */
public final class QuestionBoundsTest {
    private static final int NONE = Bounds.NONE;
    private static final int NO_SUCH = Bounds.NO_SUCH;
    private static final int MIN = Bounds.MIN;
    private static final int MAX = Bounds.MAX;

    public static void main(String[] args) {
        dealsOfNone();
        dealsOfNine();
        dealsByGroups();
        dealsOfThoseThatOweNothing();
        bestOfOneToFour();
        bestOfNoStepsAndOfMost();
        bestRefused();
        bestFirstOfSeveral();
        bestByWatches();
        bestFromHourZero();
        bestAsAllIsNow();
        bestWithoutAbsentFrostDraws();
        bestTillTheRopeBreaks();
        peaceOfFour();
        peaceRefused();
        peaceGoesRound();
        peaceHasEveryFarm();
        peaceFirstOfSeveral();
        logsAtMost();
        logRefused();
        slowAtLeast();
        slowAtMost();
        slowGoTogether();
        slowRefused();
        breaksFrom1To99999();
        breaksFirst();
        breaksOfSeveralTheLeast();
        breaksRefused();
        lastingWithin();
        lastingRefused();
        lookOfEach();
        lookRefused();
        lookBroken();
        questionsChangeNothing();
        Bounds.end();
    }

    /** Who pulled how many HOURS for whom: rows of who owes, whom, hours; a DAY each. */
    private static RopeToALake owing(int farms, int[]... debts) {
        RopeToALake x = Valleys.withFarms(farms);
        for (int day = 0; day < debts.length; day++) {
            Valleys.need(x.absent(debts[day][0], day, debts[day][1]));
            for (int h = 0; h < 24; h++) {
                x.turn(h, h < debts[day][2] ? debts[day][0] : NONE);
            }
            x.hours(24);
        }
        return x;
    }

    private static void dealsOfNone() {
        Bounds.sentence("DEALS: how many.");
        Bounds.due("no FARMS", new RopeToALake().deals(), 0);
        for (int farms = 1; farms <= 9; farms++) {
            Bounds.due(farms + " FARMS that owe nothing", Valleys.withFarms(farms).deals(), 0);
        }
        Bounds.due("one HOUR", owing(2, new int[] {0, 1, 1}).deals(), 1);
        Bounds.due("a whole DAY", owing(2, new int[] {1, 0, 24}).deals(), 1);
        Bounds.due("of nine two", owing(9, new int[] {8, 7, 1}).deals(), 1);
    }

    private static void dealsOfNine() {
        Bounds.sentence("fewest DEALS (one FARM gives another one some HOURS) by which none OWES any more: how many");
        int[][] chain = new int[8][];
        int[][] star = new int[8][];
        for (int i = 0; i < 8; i++) {
            chain[i] = new int[] {i, i + 1, i + 1};
            star[i] = new int[] {8, i, i + 1};
        }
        // nets 1, 1, 1, 1, 1, 1, 1, 1, -8 and 36 against 1 to 8: no lesser group is even
        Bounds.due("a chain of nine", owing(9, chain).deals(), 8);
        Bounds.due("a star of nine", owing(9, star).deals(), 8);
        Bounds.due("four couples of nine", owing(9, new int[] {0, 1, 3}, new int[] {2, 3, 3}, new int[] {4, 5, 7},
                new int[] {6, 7, 24}).deals(), 4);
    }

    private static void dealsByGroups() {
        Bounds.sentence("fewest DEALS");
        // nets 4, 3, 2, -5, -4: 4 with -4; 3 + 2 with -5
        Bounds.due("a couple and three", owing(5, new int[] {0, 3, 4}, new int[] {1, 3, 1}, new int[] {1, 4, 2},
                new int[] {2, 4, 2}).deals(), 3);
        // nets 3, 3, -2, -2, -2: no even group but all
        Bounds.due("five as one", owing(5, new int[] {0, 2, 2}, new int[] {0, 3, 1}, new int[] {1, 3, 1},
                new int[] {1, 4, 2}).deals(), 4);
        // nets 5, 1, -3, -3
        Bounds.due("four as one", owing(4, new int[] {0, 2, 3}, new int[] {0, 3, 2}, new int[] {1, 3, 1}).deals(), 3);
        // nets 3, 3, -3, -3 told crosswise
        Bounds.due("two couples", owing(4, new int[] {0, 2, 1}, new int[] {0, 3, 2}, new int[] {1, 2, 2},
                new int[] {1, 3, 1}).deals(), 2);
    }

    private static void dealsOfThoseThatOweNothing() {
        Bounds.sentence("(FARMS that OWE nothing on the whole have none)");
        Bounds.due("one pulled for each other", owing(2, new int[] {0, 1, 5}, new int[] {1, 0, 5}).deals(), 0);
        Bounds.due("but for one HOUR", owing(2, new int[] {0, 1, 5}, new int[] {1, 0, 4}).deals(), 1);
        Bounds.due("a ring of three", owing(3, new int[] {0, 1, 5}, new int[] {1, 2, 5}, new int[] {2, 0, 5}).deals(), 0);
        Bounds.due("the one between", owing(3, new int[] {0, 1, 5}, new int[] {1, 2, 5}).deals(), 1);
        RopeToALake x = owing(3, new int[] {0, 1, 5}, new int[] {1, 2, 5});
        Bounds.due("what was pulled stays owed", x.owes(0, 1), 5);
    }

    private static void bestOfOneToFour() {
        Bounds.sentence("BEST TURNS (1 to 4 FARMS)");
        RopeToALake x = Valleys.pulled(8, 8);
        x.bucket(0, 10, 0);
        for (int farms = 1; farms <= 4; farms++) {
            Bounds.due("of " + farms, x.best(0), 230);
            for (int i = 0; i < 4; i++) {
                Bounds.due("watch " + i + " of " + farms, x.best(10 + i), 0);
            }
            x.farm(7, 0, 0, 0);
        }
        for (int w = 0; w <= 13; w++) {
            Bounds.due("best(" + w + ") of five", x.best(w), NONE);
        }
        for (int f = 5; f < 9; f++) {
            x.farm(8, 0, 0, 0);
        }
        Bounds.due("of nine", x.best(0), NONE);
        RopeToALake last = Valleys.pulled(8, 8);
        last.bucket(0, 10, 0);
        for (int f = 1; f < 4; f++) {
            last.farm(8 + f, 0, 0, 0);
        }
        // 264 steps, the trough behind the 260th: only the last way of all makes so many
        Bounds.due("the last of four", last.best(0), 320);
        Bounds.due("the last way of all", way(last, true), 3333);
    }

    private static void bestOfNoStepsAndOfMost() {
        Bounds.sentence("that by which the TROUGH has most behind HOUR 23");
        RopeToALake x = Valleys.pulled(8, 10);
        x.bucket(7, 10, 0);
        x.hours(1);
        Bounds.due("TROUGH", x.look(2), 10);
        x.tell(0, 0, 0);
        Bounds.due("with no STEPS what it has", x.best(0), 10);
        x.tell(0, 0, 60);
        // of 1440 steps the bucket, full and at place 1, is at the trough behind the 3rd and each 8th from there
        Bounds.due("with sixty STEPS an HOUR", x.best(0), 10 + 10 * (1 + 1437 / 8));
        x.splice(1, 0, 0);
        x.farm(60, 0, 0, 0);
        Bounds.due("with two such FARMS", way(x, true), 0);
    }

    private static void bestRefused() {
        Bounds.sentence("NONE if one can't be (none, or more than four FARMS), or another what.");
        RopeToALake none = new RopeToALake();
        RopeToALake some = Valleys.busy();
        for (int w : new int[] {MIN, -1, 0, 1, 9, 10, 13, 14, MAX}) {
            Bounds.due("best(" + w + ") of no FARMS", none.best(w), NONE);
            boolean can = w == 0 || w >= 10 && w <= 13;
            Bounds.due("best(" + w + ") is there", Bounds.bit(some.best(w) != NONE), Bounds.bit(can));
        }
        for (int w : new int[] {2, 5, 8, 15, 20}) {
            Bounds.due("best(" + w + ")", some.best(w), NONE);
        }
    }

    private static int way(RopeToALake x, boolean best) {
        int way = 0;
        for (int i = 0; i < 4; i++) {
            way = 10 * way + (best ? x.best(10 + i) : x.peace(10 + i));
        }
        return way;
    }

    private static void bestFirstOfSeveral() {
        Bounds.sentence("that by which the TROUGH has most behind HOUR 23 (nothing SHARED); "
                + "of several the first (by watch, the lesser FARM)");
        RopeToALake x = Valleys.pulled(8, 0);
        x.bucket(0, 10, 0);
        x.farm(1, 0, 0, 0);
        x.farm(2, 0, 0, 0);
        x.farm(1, 0, 0, 0);
        Valleys.law(x, "share 1;");
        // the bucket is at the trough behind steps 12, 20, 28, 36, 44; 48 steps of farm 2 alone give five buckets
        Bounds.due("most", x.best(0), 50);
        // 44 steps are 8 spans of six: 0 1 2 ... need 8 at least, so 2222 alone
        Bounds.due("the only way", way(x, true), 2222);
        x.tell(0, 2, 3);
        // 72 steps: at the trough behind 68, so 12 spans of six are needed: 2222 alone
        Bounds.due("most", x.best(0), 80);
        Bounds.due("the only way", way(x, true), 2222);
        x.tell(6, 0, 10);
        // one bucket of drops: 12 steps are enough, two spans: the last watch of farm 2 alone gives three
        Bounds.due("most", x.best(0), 10);
        Bounds.due("the first way", way(x, true), 2);
        x.tell(0, 2, 1);
        Bounds.due("two watches are needed", way(x, true), 11);
        x.tell(6, 0, 0);
        Bounds.due("nothing comes up", x.best(0), 0);
        Bounds.due("the first way of all", way(x, true), 0);
    }

    private static void bestByWatches() {
        Bounds.sentence("of all ways to give each of four watches (HOURS 0 .. 5, 6 .. 11, 12 .. 17, 18 .. 23) a FARM");
        int[] ways = {1, 11, 111, 1111};
        for (int watches = 1; watches <= 4; watches++) {
            for (int beyond = 0; beyond <= 1; beyond++) {
                // the bucket comes to the trough behind so many steps; farm 1 makes six a watch, farm 0 none
                int steps = 6 * watches + beyond;
                RopeToALake x = Valleys.pulled(40, 0);
                x.bucket(20, 10, 0);
                x.tell(0, 0, 40 - steps);
                x.hours(1);
                x.tell(0, 0, 0);
                x.farm(1, 0, 0, 0);
                Bounds.due("its place", x.pail(0, 4), (60 - steps) % 40);
                Bounds.due("most by " + steps, x.best(0), steps <= 24 ? 10 : 0);
                Bounds.due("the way by " + steps, way(x, true), steps <= 24 ? ways[watches - 1 + beyond] : 0);
            }
        }
    }

    private static void bestFromHourZero() {
        Bounds.sentence("in thought from HOUR 0 of this DAY on, as all is now");
        for (int hours : new int[] {0, 1, 12, 23, 24, 25}) {
            RopeToALake x = Valleys.pulled(8, 8);
            x.bucket(7, 10, 0);
            if (hours > 0) {
                x.hours(hours);
            }
            int now = x.look(2);
            Bounds.due("24 HOURS from HOUR " + hours, x.best(0), now + 240);
            Bounds.due("HOUR", x.look(7), hours % 24);
            Bounds.due("TROUGH", x.look(2), now);
        }
    }

    private static void bestAsAllIsNow() {
        Bounds.sentence("as all is now");
        RopeToALake x = Valleys.pulled(40, 1);
        x.bucket(15, 10, 0);
        // 24 steps: at the lake behind 25
        Bounds.due("one step too few", x.best(0), 0);
        x.hours(1);
        Bounds.due("at the LAKE, not yet at the TROUGH", x.best(0), 0);
        x.hours(19);
        Bounds.due("20 steps on", x.best(0), 0);
        x.hours(1);
        Bounds.due("place", x.pail(0, 4), 36);
        Bounds.due("24 steps from the TROUGH", x.best(0), 10);
    }

    private static void bestWithoutAbsentFrostDraws() {
        Bounds.sentence("(nobody ABSENT, no FROST, no DRAWS)");
        RopeToALake x = Valleys.pulled(8, 8);
        x.bucket(0, 10, 0);
        x.farm(0, 0, 0, 0);
        x.absent(0, 0, 1);
        x.tell(7, 0, 60);
        x.tell(8, 0, 1000);
        Bounds.due("most", x.best(0), 230);
        Bounds.due("STATE", x.look(15), 0);
        Bounds.due("OWES", x.owes(0, 1), 0);
        Bounds.due("by TURNS nothing comes up", x.hours(24), 0);
        Bounds.due("TROUGH", x.look(2), 0);
    }

    private static void bestTillTheRopeBreaks() {
        Bounds.sentence("no more STEPS");
        for (int strength : new int[] {11, 12, 19, 20, 191, 192, 193, 99999}) {
            RopeToALake x = Valleys.pulled(8, 8);
            x.bucket(0, 10, 0);
            x.splice(strength, 1, 0);
            int steps = Math.min(strength, 192);
            Bounds.due("with STRENGTH " + strength, x.best(0), steps < 12 ? 0 : 10 * ((steps - 4) / 8));
            Bounds.due("STRENGTH stays", x.part(0, 0), strength);
        }
        RopeToALake broken = Valleys.pulled(8, 8);
        broken.bucket(7, 10, 0);
        broken.hours(1);
        broken.splice(0, 0, 0);
        Bounds.due("BROKEN now", broken.best(0), broken.look(2));
    }

    private static void peaceOfFour() {
        Bounds.sentence("NONE with more FARMS than four");
        RopeToALake x = new RopeToALake();
        int[] ways = {0, 1, 12, 123};
        for (int farms = 1; farms <= 4; farms++) {
            x.farm(0, 0, 0, 0);
            Bounds.due("of " + farms, x.peace(0), 0);
            Bounds.due("the way of " + farms, way(x, false), ways[farms - 1]);
        }
        for (int farms = 5; farms <= 9; farms++) {
            x.farm(0, 0, 0, 0);
            for (int w = 0; w <= 13; w++) {
                Bounds.due("peace(" + w + ") of " + farms, x.peace(w), NONE);
            }
        }
    }

    private static void peaceRefused() {
        Bounds.sentence("PEACE what 0 how many watches, 10 + i the FARM of watch i. NONE if one can't be, or another what.");
        RopeToALake none = new RopeToALake();
        RopeToALake some = Valleys.busy();
        for (int w : new int[] {MIN, -1, 0, 1, 9, 10, 13, 14, MAX}) {
            Bounds.due("peace(" + w + ") of no FARMS", none.peace(w), NONE);
            boolean can = w == 0 || w >= 10 && w <= 13;
            Bounds.due("peace(" + w + ") is there", Bounds.bit(some.peace(w) != NONE), Bounds.bit(can));
        }
    }

    private static void peaceGoesRound() {
        Bounds.sentence("(of four, the last one being ahead of the first)");
        RopeToALake x = Valleys.withFarms(4);
        x.foes(0, 3, true);
        Bounds.due("watches", x.peace(0), 0);
        Bounds.due("3 is not ahead of 0", way(x, false), 132);
        x.foes(0, 2, true);
        Bounds.due("0 has one that is no FOE, and two beside it", x.peace(0), 1);
        Bounds.due("the way", way(x, false), 123);
        RopeToALake two = Valleys.withFarms(2);
        two.foes(0, 1, true);
        Bounds.due("0 0 0 1: 1 behind 0, and 0 behind 1 round", two.peace(0), 2);
        Bounds.due("the way", way(two, false), 1);
    }

    private static void peaceHasEveryFarm() {
        Bounds.sentence("of all such ways that have every FARM at the rope");
        RopeToALake x = Valleys.withFarms(4);
        for (int a = 0; a < 4; a++) {
            for (int b = 0; b < a; b++) {
                x.foes(a, b, true);
            }
        }
        Bounds.due("all are FOES", x.peace(0), 4);
        Bounds.due("the way", way(x, false), 123);
        RopeToALake three = Valleys.withFarms(3);
        three.foes(0, 1, true);
        three.foes(0, 2, true);
        three.foes(1, 2, true);
        Bounds.due("three FOES", three.peace(0), 3);
        Bounds.due("one twice behind itself is no FOE", way(three, false), 12);
    }

    private static void peaceFirstOfSeveral() {
        Bounds.sentence("that with the fewest watches (of four, the last one being ahead of the first) in which a FOE "
                + "of the one ahead pulls; of several the first");
        RopeToALake x = Valleys.withFarms(3);
        x.foes(0, 1, true);
        Bounds.due("0 2 1 2", way(x, false), 212);
        x.foes(0, 1, false);
        x.foes(0, 2, true);
        Bounds.due("0 1 2 1", way(x, false), 121);
        x.foes(0, 2, false);
        x.foes(1, 2, true);
        Bounds.due("0 1 0 2", way(x, false), 102);
        x.foes(1, 2, false);
        Bounds.due("0 0 1 2", way(x, false), 12);
    }

    private static void logsAtMost() {
        Bounds.sentence("LOGS (40 at most): on some HOUR without FROST a FARM made so many STEPS (0 .. 60).");
        RopeToALake one = Valleys.withFarms(1);
        RopeToALake nine = Valleys.withFarms(9);
        for (int i = 0; i < 40; i++) {
            Bounds.yes("log " + i, one.log(0, 60));
            Bounds.yes("log " + i, nine.log(i % 9, i));
        }
        Bounds.no("the 41st", one.log(0, 60));
        for (int f = 0; f < 9; f++) {
            Bounds.no("the 41st", nine.log(f, 0));
            int farm = f;
            Bounds.refusedIn(Valleys::full, "the 41st", 0, x -> Bounds.bit(x.log(farm, 0)));
        }
    }

    private static void logRefused() {
        Bounds.sentence("A LOG: true; false if one can't be, or there are forty.");
        for (int steps : new int[] {MIN, -1, 61, MAX}) {
            Bounds.refused("log(0, " + steps + ")", 0, x -> Bounds.bit(x.log(0, steps)));
        }
        for (int f : new int[] {MIN, -1, 3, 9, MAX}) {
            Bounds.refusedIn(Valleys::busy, "log(" + f + ", 5)", 0, x -> Bounds.bit(x.log(f, 5)));
        }
        Bounds.refusedIn(Valleys::bare, "log(0, 5)", 0, x -> Bounds.bit(x.log(0, 5)));
        for (int steps : new int[] {0, 60}) {
            RopeToALake x = new RopeToALake();
            x.farm(60, 0, 0, 0);
            Bounds.yes("log(0, " + steps + ")", x.log(0, steps));
            Bounds.due("slow at least", x.slow(0, 0), 60 - steps);
        }
    }

    /** A farm of so many arms beside one of so many weeds. */
    private static RopeToALake logged(int arms, int weeds, int... steps) {
        RopeToALake x = new RopeToALake();
        x.farm(0, 0, 9, 0);
        x.farm(arms, 0, weeds, 0);
        x.tell(2, 0, weeds);
        for (int s : steps) {
            Valleys.need(x.log(1, s));
        }
        return x;
    }

    private static void slow(String name, RopeToALake x, int least, int most) {
        Bounds.due("slow at least with " + name, x.slow(1, 0), least);
        Bounds.due("slow at most with " + name, x.slow(1, 1), most);
    }

    private static void slowAtLeast() {
        Bounds.sentence("how much at least (its ARMS less all WEEDS of others less the STEPS of a LOG, "
                + "the greatest of its LOGS; 0 at least, none without)");
        slow("no LOGS", logged(30, 5), 0, 60);
        slow("one of 0", logged(30, 5, 0), 25, 60);
        slow("one of 0, 60 ARMS", logged(60, 0, 0), 60, 60);
        slow("one of 0, ARMS less WEEDS 0", logged(5, 5, 0), 0, 60);
        slow("one of 0, ARMS less WEEDS below 0", logged(4, 5, 0), 0, 60);
        slow("one of 0, ARMS less WEEDS 1", logged(6, 5, 0), 1, 60);
        slow("several of 0", logged(30, 5, 0, 0, 0), 25, 60);
        RopeToALake x = logged(30, 5);
        x.log(0, 7);
        slow("another FARM's LOG", x, 0, 60);
    }

    private static void slowAtMost() {
        Bounds.sentence("and at most: the least of that of its LOGS with STEPS above 0 (60 without)");
        slow("one of 1", logged(30, 5, 1), 24, 24);
        slow("one of 25", logged(30, 5, 25), 0, 0);
        slow("two of 25", logged(30, 5, 25, 25), 0, 0);
        slow("60 of 60", logged(60, 0, 60), 0, 0);
        slow("1 of 60", logged(60, 0, 1), 59, 59);
        slow("59 of 60", logged(60, 0, 59), 1, 1);
        slow("60 and 59 of 60", logged(60, 0, 60, 59), NONE, NONE);
    }

    private static void slowGoTogether() {
        Bounds.sentence("so of a FARM with LOGS that go together; NONE if least is above most");
        slow("two that don't", logged(30, 5, 10, 11), NONE, NONE);
        slow("two that don't, the greater first", logged(30, 5, 11, 10), NONE, NONE);
        slow("0 and 1: 25 above 24", logged(30, 5, 0, 1), NONE, NONE);
        slow("0 and 25", logged(30, 5, 25, 0), NONE, NONE);
        slow("more STEPS than ARMS less WEEDS", logged(30, 5, 26), NONE, NONE);
        slow("0 and STEPS of all ARMS: none to be slow by", logged(5, 5, 0), 0, 60);
        slow("1 with no ARMS to spare", logged(5, 5, 1), NONE, NONE);
        RopeToALake x = logged(30, 5, 26);
        x.tell(0, 1, 31);
        slow("an arm more", x, 0, 0);
        x.tell(2, 0, 6);
        slow("a weed more", x, NONE, NONE);
        x.tell(2, 1, 9);
        slow("its own weeds don't count", x, NONE, NONE);
    }

    private static void slowRefused() {
        Bounds.sentence("NONE if its LOGS don't go together, one can't be, or another what.");
        RopeToALake x = Valleys.busy();
        for (int f : new int[] {MIN, -1, 3, 9, MAX}) {
            Bounds.due("slow(" + f + ", 0)", x.slow(f, 0), NONE);
            Bounds.due("slow(" + f + ", 1)", x.slow(f, 1), NONE);
        }
        for (int w : new int[] {MIN, -1, 2, MAX}) {
            Bounds.due("slow(2, " + w + ")", x.slow(2, w), NONE);
        }
        Bounds.due("slow(2, 0)", x.slow(2, 0), 0);
        Bounds.due("slow(2, 1)", x.slow(2, 1), 60);
        Bounds.due("slow of no FARMS", new RopeToALake().slow(0, 0), NONE);
        Bounds.due("slow(8, 1) of nine", Valleys.withFarms(9).slow(8, 1), 60);
    }

    private static void breaksFrom1To99999() {
        Bounds.sentence("by so many STEPS from now on (1 .. 99999) which SPLICE is at 0 first");
        int[][] rows = {{1, 1, 1}, {2, 1, 2}, {99, 99, 1}, {100, 99, 2}, {98, 99, 1}, {99999, 1, 99999},
            {99998, 1, 99998}, {99999, 2, 50000}, {99999, 99, 1011}};
        for (int[] row : rows) {
            RopeToALake x = new RopeToALake();
            x.splice(row[0], row[1], 5);
            String name = "STRENGTH " + row[0] + ", WEAR " + row[1];
            Bounds.due(name + " by " + row[2], x.breaks(row[2]), 0);
            Bounds.due(name + " by one less", x.breaks(row[2] - 1), NONE);
            Bounds.due(name + " by 99999", x.breaks(99999), 0);
        }
        RopeToALake never = new RopeToALake();
        never.splice(1, 0, 5);
        Bounds.due("without WEAR", never.breaks(99999), NONE);
        RopeToALake now = new RopeToALake();
        now.splice(0, 0, 5);
        Bounds.due("at 0 now", now.breaks(1), 0);
    }

    private static void breaksFirst() {
        Bounds.sentence("which SPLICE is at 0 first");
        RopeToALake x = new RopeToALake();
        for (int s = 0; s < 8; s++) {
            x.splice(80 - 10 * s, 1, 0);
        }
        for (int n = 1; n <= 90; n++) {
            Bounds.due("breaks(" + n + ")", x.breaks(n), n < 10 ? NONE : 7);
        }
        x.mend(3, 9);
        Bounds.due("breaks(9)", x.breaks(9), 3);
        Bounds.due("breaks(8)", x.breaks(8), NONE);
    }

    private static void breaksOfSeveralTheLeast() {
        Bounds.sentence("is at 0 first (of several the least)");
        RopeToALake x = new RopeToALake();
        x.splice(50, 1, 0);
        x.splice(9, 3, 0);
        x.splice(3, 1, 0);
        x.splice(8, 3, 0);
        Bounds.due("three at step 3", x.breaks(3), 1);
        Bounds.due("three at step 3", x.breaks(99999), 1);
        Bounds.due("none at step 2", x.breaks(2), NONE);
        x.mend(1, 10);
        Bounds.due("two at step 3", x.breaks(99999), 2);
        RopeToALake y = new RopeToALake();
        y.splice(1, 1, 0);
        y.splice(0, 1, 0);
        Bounds.due("one at 0 now is ahead of one at step 1", y.breaks(1), 1);
        y.mend(1, 1);
        Bounds.due("two at step 1", y.breaks(1), 0);
    }

    private static void breaksRefused() {
        Bounds.sentence("BREAKS by n STEPS: the SPLICE; NONE if none, or one can't be.");
        RopeToALake x = new RopeToALake();
        Bounds.due("no SPLICES", x.breaks(1), NONE);
        x.splice(0, 0, 0);
        for (int n : new int[] {MIN, -1, 0, 100000, MAX}) {
            Bounds.due("breaks(" + n + ")", x.breaks(n), NONE);
        }
        Bounds.due("breaks(1)", x.breaks(1), 0);
        Bounds.due("breaks(99999)", x.breaks(99999), 0);
    }

    private static void lastingWithin() {
        Bounds.sentence("SPLICES that would be at 0 within them, all PRICES added, as a set");
        RopeToALake x = new RopeToALake();
        Bounds.due("no SPLICES, PRICES", x.lasting(99999, 0), 0);
        Bounds.due("no SPLICES, set", x.lasting(99999, 1), 0);
        for (int s = 0; s < 8; s++) {
            x.splice(10 * (s + 1), 1, 9999 - s);
        }
        int prices = 0;
        int set = 0;
        for (int n = 1; n <= 100; n++) {
            if (n % 10 == 0 && n <= 80) {
                prices += 9999 - (n / 10 - 1);
                set |= 1 << n / 10 - 1;
            }
            Bounds.due("lasting(" + n + ", 0)", x.lasting(n, 0), prices);
            Bounds.due("lasting(" + n + ", 1)", x.lasting(n, 1), set);
        }
        Bounds.due("all eight", x.lasting(80, 1), 255);
        RopeToALake y = new RopeToALake();
        y.splice(99999, 1, 0);
        y.splice(1, 0, 3);
        y.splice(0, 0, 4);
        Bounds.due("at 0 now", y.lasting(1, 1), 4);
        Bounds.due("by 99998", y.lasting(99998, 1), 4);
        Bounds.due("by 99999", y.lasting(99999, 1), 5);
        Bounds.due("PRICES", y.lasting(99999, 0), 4);
    }

    private static void lastingRefused() {
        Bounds.sentence("LASTING for n STEPS (1 .. 99999) what 0 the PRICES, 1 the set. NONE if one can't be, or another what.");
        RopeToALake x = new RopeToALake();
        x.splice(0, 0, 6);
        for (int n : new int[] {MIN, -1, 0, 100000, MAX}) {
            Bounds.due("lasting(" + n + ", 0)", x.lasting(n, 0), NONE);
            Bounds.due("lasting(" + n + ", 1)", x.lasting(n, 1), NONE);
        }
        for (int w : new int[] {MIN, -1, 2, MAX}) {
            Bounds.due("lasting(1, " + w + ")", x.lasting(1, w), NONE);
        }
        for (int n : new int[] {1, 99999}) {
            Bounds.due("lasting(" + n + ", 0)", x.lasting(n, 0), 6);
            Bounds.due("lasting(" + n + ", 1)", x.lasting(n, 1), 1);
        }
    }

    private static void lookOfEach() {
        Bounds.sentence("20 + h the FARM of HOUR h (NONE), 50 + i the FARM whose FIELD is at PLACE i (NONE)");
        RopeToALake x = Valleys.withFarms(0);
        x.notches(40);
        for (int f = 0; f < 9; f++) {
            x.farm(0, 0, 0, 0);
        }
        for (int h = 0; h < 24; h += 23) {
            x.turn(h, 8);
        }
        x.tell(5, 1, 8);
        x.tell(5, 39, 7);
        Bounds.due("look(20)", x.look(20), 8);
        Bounds.due("look(21)", x.look(21), NONE);
        Bounds.due("look(43)", x.look(43), 8);
        Bounds.due("look(50)", x.look(50), NONE);
        Bounds.due("look(51)", x.look(51), 8);
        Bounds.due("look(70)", x.look(70), NONE);
        Bounds.due("look(89)", x.look(89), 7);
        Bounds.due("look(90)", x.look(90), NO_SUCH);
    }

    private static void lookRefused() {
        Bounds.sentence("NONE - 1 for another what.");
        for (int n : new int[] {8, 12, 40}) {
            RopeToALake x = new RopeToALake();
            x.notches(n);
            for (int w : new int[] {MIN, -2, -1, 16, 17, 18, 19, 44, 45, 48, 49, 50 + n, 51 + n, 90, 91, 1000, MAX}) {
                Bounds.due("look(" + w + ") of " + n, x.look(w), NO_SUCH);
            }
            for (int w : new int[] {0, 15, 20, 43, 50, 50 + n - 1}) {
                Bounds.due("look(" + w + ") is there", Bounds.bit(x.look(w) != NO_SUCH), 1);
            }
        }
    }

    private static void lookBroken() {
        Bounds.sentence("8 1 if the rope is BROKEN, else 0");
        RopeToALake x = Valleys.pulled(8, 1);
        Bounds.due("no SPLICES", x.look(8), 0);
        x.splice(2, 1, 0);
        x.hours(1);
        Bounds.due("STRENGTH 1", x.look(8), 0);
        x.hours(1);
        Bounds.due("STRENGTH 0", x.look(8), 1);
        x.undo();
        Bounds.due("undone", x.look(8), 0);
        x.hours(1);
        x.mend(0, 1);
        Bounds.due("put in anew", x.look(8), 0);
    }

    private static void questionsChangeNothing() {
        Bounds.sentence("Nothing is promised beyond the answers and state changes described above");
        Bounds.asked(Valleys::busy, "deals", x -> x.deals());
        for (int w : new int[] {0, 10, 13, 14}) {
            Bounds.asked(Valleys::busy, "best(" + w + ")", x -> x.best(w));
            Bounds.asked(Valleys::busy, "peace(" + w + ")", x -> x.peace(w));
            Bounds.asked(Valleys::full, "best(" + w + ")", x -> x.best(w));
            Bounds.asked(Valleys::full, "peace(" + w + ")", x -> x.peace(w));
        }
        Bounds.asked(Valleys::full, "deals", x -> x.deals());
        Bounds.asked(Valleys::full, "slow", x -> x.slow(0, 0) + x.slow(8, 1) + x.slow(9, 0));
        Bounds.asked(Valleys::full, "breaks", x -> x.breaks(99999) + x.breaks(0));
        Bounds.asked(Valleys::full, "lasting", x -> x.lasting(99999, 0) + x.lasting(1, 2));
        Bounds.asked(Valleys::full, "look", x -> x.look(1) + x.look(16) + x.look(43) + x.look(89));
        Bounds.asked(Valleys::full, "owes", x -> x.owes(8, 5) + x.owes(8, 8));
    }
}
