import java.util.Arrays;

/** A valley's rope with buckets, pulled by turns by its farms; ../shared/DOC.md says what it promises. */
public final class RopeToALake {
    public static final int NONE = -1;

    private static final int NO_SUCH = NONE - 1;
    private static final int MOST_BUCKETS = 10;
    private static final int MOST_FARMS = 9;
    private static final int MOST_SPLICES = 8;
    private static final int MOST_PLACES = 40;
    private static final int LAST_DAY = 9999;
    private static final int HOURS_OF_DAY = 24;

    private final Valley valley;
    private final Valley picture;
    private boolean isPictured;
    private final Past past;
    private final Reader reader;
    private final Watches watches;
    private final Ledger ledger;

    public RopeToALake() {
        valley = new Valley();
        picture = new Valley();
        isPictured = false;
        past = new Past();
        reader = new Reader();
        watches = new Watches();
        ledger = new Ledger();
    }

    public int state(int v) {
        int was = valley.moving.draws;
        valley.moving.draws = v;
        past.tellDraws(v);
        return was;
    }

    public boolean notches(int n) {
        if (!isWithin(n, 8, MOST_PLACES) || n % 2 != 0) {
            return false;
        }
        valley.beginWith(n);
        past.forget();
        return true;
    }

    public int bucket(int notch, int size, int hole) {
        return forgetIfNumbered(valley.rope.hangBucket(notch, size, hole));
    }

    public int farm(int arms, int slow, int weeds, int need) {
        return forgetIfNumbered(valley.folk.settle(arms, slow, weeds, need));
    }

    public boolean tell(int what, int i, int v) {
        return forgetIf(valley.learn(what, i, v));
    }

    public boolean turn(int hour, int farm) {
        if (!isWithin(hour, 0, HOURS_OF_DAY - 1) || (farm != NONE && !valley.folk.has(farm))) {
            return false;
        }
        valley.roster.turnOf[hour] = farm;
        return true;
    }

    public boolean absent(int farm, int day, int by) {
        if (!valley.folk.areTwo(farm, by) || !isWithin(day, 0, LAST_DAY)) {
            return false;
        }
        return forgetIf(valley.roster.excuse(farm, day, by));
    }

    public int splice(int strength, int wear, int price) {
        if (!isWithin(strength, 0, 99999)) {
            return NONE;
        }
        int number = valley.rope.addSplice(wear, price);
        if (isWithin(number, 0, MOST_SPLICES - 1)) {
            valley.moving.strength[number] = strength;
        }
        return forgetIfNumbered(number);
    }

    public boolean mend(int splice, int strength) {
        if (!valley.rope.hasSplice(splice) || !isWithin(strength, 1, 99999)) {
            return false;
        }
        valley.moving.strength[splice] = strength;
        past.forget();
        return true;
    }

    public boolean foes(int a, int b, boolean are) {
        if (!valley.folk.areTwo(a, b)) {
            return false;
        }
        valley.folk.setFoes(a, b, are);
        return true;
    }

    public int feed(int a, int b, int c, int d, int e) {
        Tape tape = reader.tape;
        if (!tape.hasRoom()) {
            return NONE;
        }
        tape.add(a);
        tape.add(b);
        tape.add(c);
        tape.add(d);
        tape.add(e);
        return tape.length;
    }

    public boolean end(int n) {
        if (!isWithin(n, 0, reader.tape.length)) {
            return false;
        }
        reader.tape.length = n;
        return true;
    }

    public int text() {
        reader.read();
        reader.tape.length = 0;
        if (reader.faultKind != 0) {
            return NONE;
        }
        valley.law.adopt(reader);
        return valley.law.lines;
    }

    public int fault(int what) {
        if (what == 0) {
            return reader.faultKind;
        }
        return what == 1 ? reader.faultPlace : NONE;
    }

    public int hours(int n) {
        if (!isWithin(n, 1, 240) || !valley.hasTimeFor(n)) {
            return NONE;
        }
        int made = 0;
        for (int i = 0; i < n; i++) {
            past.keep(valley.moving);
            made += valley.passHour();
        }
        return made;
    }

    public int of(int farm, int what) {
        if (!valley.folk.has(farm)) {
            return NO_SUCH;
        }
        if (isWithin(what, Folk.ARMS, Folk.NEED)) {
            return valley.folk.trait[what][farm];
        }
        Moving moving = valley.moving;
        switch (what) {
            case 4: return moving.drops[farm];
            case 5: return moving.pulled[farm];
            case 6: return moving.pulledToday[farm];
            case 7: return moving.dripped[farm];
            case 8: return moving.drippedToday[farm];
            case 9: return moving.dryDays[farm];
            case 10: return valley.weightOf(farm);
            case 11: return moving.debtOf(farm);
            case 12: return moving.creditOf(farm);
            default: return NO_SUCH;
        }
    }

    public int pail(int bucket, int what) {
        Rope rope = valley.rope;
        if (!rope.hasBucket(bucket)) {
            return NONE;
        }
        switch (what) {
            case 0: return rope.notch[bucket];
            case 1: return rope.size[bucket];
            case 2: return rope.hole[bucket];
            case 3: return valley.moving.inBucket[bucket];
            case 4: return rope.placeOf(bucket, valley.moving);
            default: return NONE;
        }
    }

    public int part(int splice, int what) {
        Rope rope = valley.rope;
        if (!rope.hasSplice(splice)) {
            return NONE;
        }
        switch (what) {
            case 0: return valley.moving.strength[splice];
            case 1: return rope.wear[splice];
            case 2: return rope.price[splice];
            default: return NONE;
        }
    }

    public int owes(int a, int b) {
        return valley.folk.areTwo(a, b) ? valley.moving.debt[a * MOST_FARMS + b] : NONE;
    }

    public int deals() {
        return ledger.fewestDeals(valley.moving, valley.folk.farms);
    }

    public int best(int what) {
        if (!watches.canAnswer(what, valley.folk.farms)) {
            return NONE;
        }
        watches.seekMostWater(valley);
        return watches.answer(what);
    }

    public int peace(int what) {
        if (!watches.canAnswer(what, valley.folk.farms)) {
            return NONE;
        }
        watches.seekPeace(valley.folk);
        return watches.answer(what);
    }

    public boolean log(int farm, int steps) {
        return valley.folk.noteLog(farm, steps);
    }

    public int slow(int farm, int what) {
        Folk folk = valley.folk;
        if (!folk.has(farm) || !isWithin(what, 0, 1)) {
            return NONE;
        }
        int least = folk.leastSlow(farm);
        int most = folk.mostSlow(farm);
        if (least > most) {
            return NONE;
        }
        return what == 0 ? least : most;
    }

    public int breaks(int n) {
        return isWithin(n, 1, 99999) ? valley.rope.firstToBreak(n, valley.moving) : NONE;
    }

    public int lasting(int n, int what) {
        if (!isWithin(n, 1, 99999)) {
            return NONE;
        }
        switch (what) {
            case 0: return valley.rope.priceOfBroken(n, valley.moving);
            case 1: return valley.rope.setOfBroken(n, valley.moving);
            default: return NONE;
        }
    }

    public boolean undo() {
        return past.bringBack(valley.moving);
    }

    public boolean image(boolean taken) {
        if (taken) {
            picture.copyFrom(valley);
            isPictured = true;
            return true;
        }
        if (!isPictured) {
            return false;
        }
        valley.copyFrom(picture);
        past.forget();
        return true;
    }

    public int look(int what) {
        if (isWithin(what, 20, 20 + HOURS_OF_DAY - 1)) {
            return valley.roster.turnOf[what - 20];
        }
        if (isWithin(what, 50, 50 + valley.rope.notches - 1)) {
            return valley.rope.ownerAt(what - 50);
        }
        Moving moving = valley.moving;
        switch (what) {
            case 0: return valley.rope.notches;
            case 1: return moving.lake;
            case 2: return moving.trough;
            case 3: return valley.rope.buckets;
            case 4: return valley.folk.farms;
            case 5: return valley.rope.splices;
            case 6: return moving.day;
            case 7: return moving.hour;
            case 8: return valley.rope.isBroken(moving) ? 1 : 0;
            case 9: return moving.steps;
            case 10: return past.kept;
            case 11: return moving.allDrops();
            case 12: return valley.law.lines;
            case 13: return valley.frost;
            case 14: return valley.cold;
            case 15: return moving.draws;
            default: return NO_SUCH;
        }
    }

    private static boolean isWithin(int v, int least, int most) {
        return v >= least && v <= most;
    }

    private boolean forgetIf(boolean told) {
        if (told) {
            past.forget();
        }
        return told;
    }

    private int forgetIfNumbered(int number) {
        forgetIf(number != NONE);
        return number;
    }

    /** What an HOUR changes, apart from what is only ever told: so UNDO copies this and nothing else. */
    private static final class Moving {
        int draws;
        int lake;
        int trough;
        int day;
        int hour;
        int steps;
        /** How far notch 0 has come: kept beside the steps so that no place needs a division. */
        int turned;
        final int[] inBucket = new int[MOST_BUCKETS];
        final int[] strength = new int[MOST_SPLICES];
        final int[] drops = new int[MOST_FARMS];
        final int[] pulled = new int[MOST_FARMS];
        final int[] pulledToday = new int[MOST_FARMS];
        final int[] dripped = new int[MOST_FARMS];
        final int[] drippedToday = new int[MOST_FARMS];
        final int[] dryDays = new int[MOST_FARMS];
        /** At a * MOST_FARMS + b the HOURS that a OWES b. */
        final int[] debt = new int[MOST_FARMS * MOST_FARMS];

        void copyFrom(Moving other) {
            draws = other.draws;
            lake = other.lake;
            trough = other.trough;
            day = other.day;
            hour = other.hour;
            steps = other.steps;
            turned = other.turned;
            System.arraycopy(other.inBucket, 0, inBucket, 0, MOST_BUCKETS);
            System.arraycopy(other.strength, 0, strength, 0, MOST_SPLICES);
            System.arraycopy(other.drops, 0, drops, 0, MOST_FARMS);
            System.arraycopy(other.pulled, 0, pulled, 0, MOST_FARMS);
            System.arraycopy(other.pulledToday, 0, pulledToday, 0, MOST_FARMS);
            System.arraycopy(other.dripped, 0, dripped, 0, MOST_FARMS);
            System.arraycopy(other.drippedToday, 0, drippedToday, 0, MOST_FARMS);
            System.arraycopy(other.dryDays, 0, dryDays, 0, MOST_FARMS);
            System.arraycopy(other.debt, 0, debt, 0, MOST_FARMS * MOST_FARMS);
        }

        /** The draws stay: a rope told anew does not begin them again. */
        void clearAllButDraws() {
            lake = 0;
            trough = 0;
            day = 0;
            hour = 0;
            steps = 0;
            turned = 0;
            Arrays.fill(inBucket, 0);
            Arrays.fill(strength, 0);
            Arrays.fill(drops, 0);
            Arrays.fill(pulled, 0);
            Arrays.fill(dripped, 0);
            Arrays.fill(dryDays, 0);
            Arrays.fill(debt, 0);
            forgetToday();
        }

        void forgetToday() {
            Arrays.fill(pulledToday, 0);
            Arrays.fill(drippedToday, 0);
        }

        int draw(int bound) {
            draws = 1664525 * draws + 1013904223;
            return bound > 0 ? (draws >>> 8) % bound : 0;
        }

        int allDrops() {
            int all = lake + trough;
            for (int b = 0; b < MOST_BUCKETS; b++) {
                all += inBucket[b];
            }
            for (int f = 0; f < MOST_FARMS; f++) {
                all += drops[f];
            }
            return all;
        }

        int debtOf(int farm) {
            int together = 0;
            for (int other = 0; other < MOST_FARMS; other++) {
                together += debt[farm * MOST_FARMS + other];
            }
            return together;
        }

        int creditOf(int farm) {
            int together = 0;
            for (int other = 0; other < MOST_FARMS; other++) {
                together += debt[other * MOST_FARMS + farm];
            }
            return together;
        }
    }

    /** The ring as it is told: its buckets, the fields under it, its splices. */
    private static final class Rope {
        int notches;
        int buckets;
        int splices;
        final int[] notch = new int[MOST_BUCKETS];
        final int[] size = new int[MOST_BUCKETS];
        final int[] hole = new int[MOST_BUCKETS];
        final int[] field = new int[MOST_PLACES];
        final int[] wear = new int[MOST_SPLICES];
        final int[] price = new int[MOST_SPLICES];

        void beginWith(int n) {
            notches = n;
            buckets = 0;
            splices = 0;
            Arrays.fill(field, NONE);
        }

        void copyFrom(Rope other) {
            notches = other.notches;
            buckets = other.buckets;
            splices = other.splices;
            System.arraycopy(other.notch, 0, notch, 0, MOST_BUCKETS);
            System.arraycopy(other.size, 0, size, 0, MOST_BUCKETS);
            System.arraycopy(other.hole, 0, hole, 0, MOST_BUCKETS);
            System.arraycopy(other.field, 0, field, 0, MOST_PLACES);
            System.arraycopy(other.wear, 0, wear, 0, MOST_SPLICES);
            System.arraycopy(other.price, 0, price, 0, MOST_SPLICES);
        }

        boolean hasBucket(int b) {
            return isWithin(b, 0, buckets - 1);
        }

        boolean hasSplice(int s) {
            return isWithin(s, 0, splices - 1);
        }

        int hangBucket(int atNotch, int ofSize, int withHole) {
            if (buckets >= MOST_BUCKETS || !isWithin(atNotch, 0, notches - 1)
                    || !isWithin(ofSize, 1, 99) || !isWithin(withHole, 0, 99) || isTaken(atNotch)) {
                return NONE;
            }
            notch[buckets] = atNotch;
            size[buckets] = ofSize;
            hole[buckets] = withHole;
            buckets++;
            return buckets - 1;
        }

        private boolean isTaken(int atNotch) {
            for (int b = 0; b < buckets; b++) {
                if (notch[b] == atNotch) {
                    return true;
                }
            }
            return false;
        }

        int addSplice(int itsWear, int itsPrice) {
            if (splices >= MOST_SPLICES || !isWithin(itsWear, 0, 99) || !isWithin(itsPrice, 0, 9999)) {
                return NONE;
            }
            wear[splices] = itsWear;
            price[splices] = itsPrice;
            splices++;
            return splices - 1;
        }

        boolean isOverLand(int place) {
            return isWithin(place, 1, notches - 1) && place != notches / 2;
        }

        int ownerAt(int place) {
            return isWithin(place, 0, MOST_PLACES - 1) ? field[place] : NONE;
        }

        int placeOf(int b, Moving moving) {
            int place = notch[b] + moving.turned;
            return place < notches ? place : place - notches;
        }

        boolean isBroken(Moving moving) {
            return stepsItHolds(moving) == 0;
        }

        int stepsItHolds(Moving moving) {
            int least = Integer.MAX_VALUE;
            for (int s = 0; s < splices; s++) {
                least = Math.min(least, stepsToBreak(s, moving));
            }
            return least;
        }

        /** So many STEPS, which the splices must hold: their wear is the same taken once as step by step. */
        void moveOn(int steps, Moving moving) {
            for (int i = 0; i < steps; i++) {
                moving.turned = moving.turned + 1 < notches ? moving.turned + 1 : 0;
                for (int b = 0; b < buckets; b++) {
                    visit(b, placeOf(b, moving), moving);
                }
            }
            moving.steps += steps;
            for (int s = 0; s < splices; s++) {
                moving.strength[s] = Math.max(0, moving.strength[s] - wear[s] * steps);
            }
        }

        private void visit(int b, int place, Moving moving) {
            if (place == notches / 2) {
                moving.trough += moving.inBucket[b];
                moving.inBucket[b] = 0;
            } else if (place == 0) {
                int taken = Math.min(size[b] - moving.inBucket[b], moving.lake);
                moving.lake -= taken;
                moving.inBucket[b] += taken;
            } else {
                drip(Math.min(hole[b], moving.inBucket[b]), b, ownerAt(place), moving);
            }
        }

        private void drip(int lost, int b, int owner, Moving moving) {
            moving.inBucket[b] -= lost;
            if (isWithin(owner, 0, MOST_FARMS - 1)) {
                moving.drops[owner] += lost;
                moving.dripped[owner] += lost;
                moving.drippedToday[owner] += lost;
            } else {
                moving.lake += lost;
            }
        }

        int firstToBreak(int n, Moving moving) {
            int first = NONE;
            int least = n + 1;
            for (int s = 0; s < splices; s++) {
                int steps = stepsToBreak(s, moving);
                if (steps < least) {
                    least = steps;
                    first = s;
                }
            }
            return first;
        }

        int priceOfBroken(int n, Moving moving) {
            int together = 0;
            for (int s = 0; s < splices; s++) {
                if (stepsToBreak(s, moving) <= n) {
                    together += price[s];
                }
            }
            return together;
        }

        int setOfBroken(int n, Moving moving) {
            int set = 0;
            for (int s = 0; s < splices; s++) {
                if (stepsToBreak(s, moving) <= n) {
                    set |= 1 << s;
                }
            }
            return set;
        }

        private int stepsToBreak(int s, Moving moving) {
            int strength = moving.strength[s];
            if (strength == 0) {
                return 0;
            }
            return wear[s] > 0 ? (strength + wear[s] - 1) / wear[s] : Integer.MAX_VALUE;
        }
    }

    /** The farms as they are told, with who is whose foe and the logs. */
    private static final class Folk {
        static final int ARMS = 0;
        static final int SLOW = 1;
        static final int WEEDS = 2;
        static final int NEED = 3;
        private static final int TRAITS = 4;
        private static final int[] MOST_OF_TRAIT = {60, 60, 9, 9999};
        private static final int MOST_LOGS = 40;
        private static final int MOST_STEPS = 60;
        private static final int NO_LOG = MOST_STEPS + 1;

        int farms;
        final int[][] trait = new int[TRAITS][MOST_FARMS];
        /** Of each farm its foes, as a set. */
        private final int[] foesOf = new int[MOST_FARMS];
        int logs;
        /** Of a farm's logs only the least and the greatest STEPS ever matter. */
        final int[] fewestLogged = new int[MOST_FARMS];
        final int[] mostLogged = new int[MOST_FARMS];

        void begin() {
            farms = 0;
            for (int t = 0; t < TRAITS; t++) {
                Arrays.fill(trait[t], 0);
            }
            Arrays.fill(foesOf, 0);
            logs = 0;
            Arrays.fill(fewestLogged, NO_LOG);
            Arrays.fill(mostLogged, 0);
        }

        void copyFrom(Folk other) {
            farms = other.farms;
            for (int t = 0; t < TRAITS; t++) {
                System.arraycopy(other.trait[t], 0, trait[t], 0, MOST_FARMS);
            }
            System.arraycopy(other.foesOf, 0, foesOf, 0, MOST_FARMS);
            logs = other.logs;
            System.arraycopy(other.fewestLogged, 0, fewestLogged, 0, MOST_FARMS);
            System.arraycopy(other.mostLogged, 0, mostLogged, 0, MOST_FARMS);
        }

        boolean has(int f) {
            return isWithin(f, 0, farms - 1);
        }

        boolean areTwo(int a, int b) {
            return has(a) && has(b) && a != b;
        }

        private static boolean isFit(int t, int v) {
            return isWithin(t, 0, TRAITS - 1) && isWithin(v, 0, MOST_OF_TRAIT[t]);
        }

        int settle(int arms, int slowness, int weeds, int need) {
            if (farms >= MOST_FARMS || !isFit(ARMS, arms) || !isFit(SLOW, slowness)
                    || !isFit(WEEDS, weeds) || !isFit(NEED, need)) {
                return NONE;
            }
            trait[ARMS][farms] = arms;
            trait[SLOW][farms] = slowness;
            trait[WEEDS][farms] = weeds;
            trait[NEED][farms] = need;
            farms++;
            return farms - 1;
        }

        boolean learnTrait(int t, int f, int v) {
            if (!has(f) || !isFit(t, v)) {
                return false;
            }
            trait[t][f] = v;
            return true;
        }

        void setFoes(int a, int b, boolean are) {
            int aloneA = foesOf[a] & ~(1 << b);
            int aloneB = foesOf[b] & ~(1 << a);
            foesOf[a] = are ? aloneA | 1 << b : aloneA;
            foesOf[b] = are ? aloneB | 1 << a : aloneB;
        }

        boolean areFoes(int a, int b) {
            return (foesOf[a] >> b & 1) == 1;
        }

        /** What would be made an HOUR with quick hands and no FROST; may be below 0. */
        private int armsLessWeeds(int f) {
            int left = trait[ARMS][f];
            for (int other = 0; other < farms; other++) {
                if (other != f) {
                    left -= trait[WEEDS][other];
                }
            }
            return left;
        }

        int stepsAnHour(int f, int frost) {
            return Math.max(0, armsLessWeeds(f) - trait[SLOW][f] - frost);
        }

        boolean noteLog(int f, int steps) {
            if (!has(f) || !isWithin(steps, 0, MOST_STEPS) || logs >= MOST_LOGS) {
                return false;
            }
            logs++;
            fewestLogged[f] = Math.min(fewestLogged[f], steps);
            mostLogged[f] = Math.max(mostLogged[f], steps);
            return true;
        }

        int leastSlow(int f) {
            return fewestLogged[f] == NO_LOG ? 0 : Math.max(0, armsLessWeeds(f) - fewestLogged[f]);
        }

        /** A log of 0 STEPS tells no most: any slower hand makes 0 too. */
        int mostSlow(int f) {
            return mostLogged[f] == 0 ? MOST_OF_TRAIT[SLOW] : armsLessWeeds(f) - mostLogged[f];
        }
    }

    /** Whose turn each hour is, and who pulls for whom on which day. */
    private static final class Roster {
        private static final int MOST_ABSENCES = 30;

        final int[] turnOf = new int[HOURS_OF_DAY];
        private int absences;
        private final int[] away = new int[MOST_ABSENCES];
        private final int[] dayAway = new int[MOST_ABSENCES];
        private final int[] instead = new int[MOST_ABSENCES];

        void begin() {
            Arrays.fill(turnOf, NONE);
            absences = 0;
        }

        void copyFrom(Roster other) {
            System.arraycopy(other.turnOf, 0, turnOf, 0, HOURS_OF_DAY);
            absences = other.absences;
            System.arraycopy(other.away, 0, away, 0, MOST_ABSENCES);
            System.arraycopy(other.dayAway, 0, dayAway, 0, MOST_ABSENCES);
            System.arraycopy(other.instead, 0, instead, 0, MOST_ABSENCES);
        }

        boolean excuse(int farm, int day, int by) {
            if (absences >= MOST_ABSENCES || isBound(farm, day) || isBound(by, day)) {
                return false;
            }
            away[absences] = farm;
            dayAway[absences] = day;
            instead[absences] = by;
            absences++;
            return true;
        }

        private boolean isBound(int farm, int day) {
            for (int i = 0; i < absences; i++) {
                if (dayAway[i] == day && (away[i] == farm || instead[i] == farm)) {
                    return true;
                }
            }
            return false;
        }

        int pullerFor(int farm, int day) {
            for (int i = 0; i < absences; i++) {
                if (dayAway[i] == day && away[i] == farm) {
                    return instead[i];
                }
            }
            return farm;
        }
    }

    /** The bytes that have come and are no law yet, and the tokens they make. */
    private static final class Tape {
        static final int MOST_BYTES = 400;
        static final int BAD = -1;
        static final int END = -2;
        static final int SHARE = -300;
        static final int WHEN = -301;
        static final int OR = -302;
        static final int AND = -303;
        static final int NOT = -304;
        static final int FARM = -305;
        static final int DAY = -314;
        /** In the order of the tokens from SHARE down to DAY, a blank behind each. */
        private static final String WORDS =
                "share when or and not farm pulled arms weeds need drops wet dry owes day ";
        private static final String SIGNS = ";+-*/()<=>";
        private static final int MOST_DIGITS = 4;
        private static final int BYTES_OF_FEED = 20;

        int length;
        private final int[] signs = new int[MOST_BYTES];
        /** A number stands for itself, all else is below 0: a sign is its code less than 0. */
        final int[] token = new int[MOST_BYTES + 1];
        final int[] place = new int[MOST_BYTES + 1];
        int tokens;
        private int at;

        boolean hasRoom() {
            return length + BYTES_OF_FEED <= MOST_BYTES;
        }

        void add(int four) {
            for (int shift = 24; shift >= 0; shift -= 8) {
                if (length < MOST_BYTES) {
                    signs[length] = (four >>> shift) & 255;
                    length++;
                }
            }
        }

        private int signAt(int i) {
            return isWithin(i, 0, Math.min(length, MOST_BYTES) - 1) ? signs[i] : 0;
        }

        /** Each round takes one byte at least, so that there are no more tokens than bytes, and the END. */
        void scan() {
            tokens = 0;
            at = 0;
            for (int i = 0; i < MOST_BYTES && at < length; i++) {
                int sign = signAt(at);
                if (sign == 32 || sign == 10) {
                    at++;
                } else {
                    place[tokens] = at;
                    token[tokens] = scanToken(sign);
                    tokens++;
                }
            }
            place[tokens] = length;
            token[tokens] = END;
            tokens++;
        }

        private int scanToken(int sign) {
            if (isLetter(sign)) {
                return scanWord();
            }
            if (isDigit(sign)) {
                return scanNumber();
            }
            at++;
            return SIGNS.indexOf((char) sign) >= 0 ? -sign : BAD;
        }

        private int scanWord() {
            int from = at;
            while (at < length && isLetter(signAt(at))) {
                at++;
            }
            int word = SHARE;
            int begin = 0;
            for (int i = 0; i < WORDS.length(); i++) {
                if (WORDS.charAt(i) == ' ') {
                    if (i - begin == at - from && isWordAt(begin, i, from)) {
                        return word;
                    }
                    word--;
                    begin = i + 1;
                }
            }
            return BAD;
        }

        private boolean isWordAt(int begin, int behind, int from) {
            for (int i = begin; i < behind; i++) {
                if (WORDS.charAt(i) != signAt(from + i - begin)) {
                    return false;
                }
            }
            return true;
        }

        private int scanNumber() {
            int from = at;
            int number = 0;
            while (at < length && isDigit(signAt(at))) {
                number = at - from < MOST_DIGITS ? number * 10 + signAt(at) - '0' : BAD;
                at++;
            }
            return number;
        }

        private static boolean isLetter(int sign) {
            return isWithin(sign, 'a', 'z') || isWithin(sign, 'A', 'Z');
        }

        private static boolean isDigit(int sign) {
            return isWithin(sign, '0', '9');
        }
    }

    /**
     * Reads the tape's tokens into code for the law's stack: the same tokens, the operands ahead of what
     * joins them. A fault turns the token into BAD, which nothing takes, so that all loops end by themselves.
     */
    private static final class Reader {
        private static final int MOST_LINES = 16;
        private static final int MOST_OPEN = 8;
        private static final int CANNOT_STAND = 1;
        private static final int PART_BY_ZERO = 2;
        private static final int TOO_MANY = 3;

        final Tape tape = new Tape();
        int faultKind;
        int faultPlace = NONE;
        int lines;
        int length;
        final int[] code = new int[Tape.MOST_BYTES];
        private int at;
        private int token;

        void read() {
            tape.scan();
            faultKind = 0;
            faultPlace = NONE;
            lines = 0;
            length = 0;
            at = 0;
            token = tape.token[0];
            for (int i = 0; i <= MOST_LINES && token == Tape.SHARE; i++) {
                if (i < MOST_LINES) {
                    readLine();
                } else {
                    fail(TOO_MANY);
                }
            }
            if (token != Tape.END) {
                fail(CANNOT_STAND);
            }
        }

        /** Only the first fault counts: what is read behind it is no law any more. */
        private void fail(int what) {
            if (faultKind == 0) {
                faultKind = what;
                faultPlace = tape.place[at];
            }
            token = Tape.BAD;
        }

        private void next() {
            if (at + 1 < tape.tokens) {
                at++;
                token = tape.token[at];
            }
        }

        private void emit(int c) {
            if (length < code.length) {
                code[length] = c;
                length++;
            }
        }

        private void expect(int wanted) {
            if (token == wanted) {
                next();
            } else {
                fail(CANNOT_STAND);
            }
        }

        private void readLine() {
            lines++;
            next();
            readSum();
            if (token == Tape.WHEN) {
                next();
                readAny(0);
                emit(Tape.WHEN);
            } else {
                emit(Tape.SHARE);
            }
            expect(-';');
        }

        /** A + or - waits till the product behind it has been read; * and / don't. */
        private void readSum() {
            readUnit();
            int waiting = 0;
            for (int i = 0; i < Tape.MOST_BYTES && isArithmetic(token); i++) {
                int sign = token;
                boolean isOfProduct = sign == -'*' || sign == -'/';
                if (!isOfProduct && waiting != 0) {
                    emit(waiting);
                }
                waiting = isOfProduct ? waiting : sign;
                next();
                if (sign == -'/') {
                    readDivisor();
                } else {
                    readUnit();
                }
                if (isOfProduct) {
                    emit(sign);
                }
            }
            if (waiting != 0) {
                emit(waiting);
            }
        }

        private static boolean isArithmetic(int sign) {
            return sign == -'+' || sign == -'-' || sign == -'*' || sign == -'/';
        }

        private void readUnit() {
            if (token >= 0 || isWithin(token, Tape.DAY, Tape.FARM)) {
                emit(token);
                next();
            } else {
                fail(CANNOT_STAND);
            }
        }

        private void readDivisor() {
            if (token > 0) {
                emit(token);
                next();
            } else {
                fail(token == 0 ? PART_BY_ZERO : CANNOT_STAND);
            }
        }

        /** An or waits till the ands behind it have been read. */
        private void readAny(int open) {
            readCondition(open);
            boolean isWaiting = false;
            for (int i = 0; i < Tape.MOST_BYTES && (token == Tape.OR || token == Tape.AND); i++) {
                int sign = token;
                if (sign == Tape.OR && isWaiting) {
                    emit(Tape.OR);
                }
                isWaiting = isWaiting || sign == Tape.OR;
                next();
                readCondition(open);
                if (sign == Tape.AND) {
                    emit(Tape.AND);
                }
            }
            if (isWaiting) {
                emit(Tape.OR);
            }
        }

        private void readCondition(int open) {
            boolean opens = token == Tape.NOT || token == -'(';
            if (opens && open >= MOST_OPEN) {
                fail(TOO_MANY);
            } else if (token == Tape.NOT) {
                next();
                readCondition(open + 1);
                emit(Tape.NOT);
            } else if (opens) {
                next();
                readAny(open + 1);
                expect(-')');
            } else {
                readSum();
                int sign = token;
                if (sign == -'<' || sign == -'=' || sign == -'>') {
                    next();
                    readSum();
                    emit(sign);
                } else {
                    fail(CANNOT_STAND);
                }
            }
        }
    }

    /** The law as code for a stack, as the reader left it. */
    private static final class Law {
        private static final int MOST_WEIGHT = 9999;
        /** Each of eight open brackets leaves two values below, a comparison four more: 32 is ample. */
        private static final int MOST_STACKED = 32;

        int lines;
        private int length;
        private final int[] code = new int[Tape.MOST_BYTES];
        private final int[] stack = new int[MOST_STACKED];
        private int top;

        void begin() {
            lines = 0;
            length = 0;
        }

        void copyFrom(Law other) {
            lines = other.lines;
            length = other.length;
            System.arraycopy(other.code, 0, code, 0, Tape.MOST_BYTES);
        }

        void adopt(Reader reader) {
            lines = reader.lines;
            length = reader.length;
            System.arraycopy(reader.code, 0, code, 0, Tape.MOST_BYTES);
        }

        private void push(int v) {
            if (isWithin(top, 0, MOST_STACKED - 1)) {
                stack[top] = v;
                top++;
            }
        }

        private int pop() {
            if (!isWithin(top, 1, MOST_STACKED)) {
                return 0;
            }
            top--;
            return stack[top];
        }

        int weigh(int farm, Folk folk, Moving moving) {
            top = 0;
            for (int i = 0; i < length; i++) {
                int token = code[i];
                if (token >= 0) {
                    push(token);
                } else if (token == Tape.SHARE) {
                    return hold(pop());
                } else if (token == Tape.WHEN) {
                    boolean isSo = pop() != 0;
                    int weight = pop();
                    if (isSo) {
                        return hold(weight);
                    }
                } else if (token == Tape.NOT) {
                    push(1 - pop());
                } else if (token <= Tape.FARM) {
                    push(valueOf(token, farm, folk, moving));
                } else {
                    int right = pop();
                    push(join(token, pop(), right));
                }
            }
            return 0;
        }

        private static int hold(int weight) {
            return Math.max(0, Math.min(MOST_WEIGHT, weight));
        }

        private static int join(int token, int left, int right) {
            switch (token) {
                case -'+': return left + right;
                case -'-': return left - right;
                case -'*': return left * right;
                case -'/': return right > 0 ? left / right : 0;
                case -'<': return left < right ? 1 : 0;
                case -'=': return left == right ? 1 : 0;
                case -'>': return left > right ? 1 : 0;
                case Tape.AND: return left & right;
                case Tape.OR: return left | right;
                default: return 0;
            }
        }

        /** The words stand here as they do on the tape, from FARM on. */
        private static int valueOf(int token, int farm, Folk folk, Moving moving) {
            switch (Tape.FARM - token) {
                case 0: return farm;
                case 1: return moving.pulledToday[farm];
                case 2: return folk.trait[Folk.ARMS][farm];
                case 3: return folk.trait[Folk.WEEDS][farm];
                case 4: return folk.trait[Folk.NEED][farm];
                case 5: return moving.drops[farm];
                case 6: return moving.drippedToday[farm];
                case 7: return moving.dryDays[farm];
                case 8: return moving.debtOf(farm);
                case 9: return moving.day;
                default: return 0;
            }
        }
    }

    /** All that THE IMAGE has: what is told and what moves. */
    private static final class Valley {
        private static final int MOST_LAKE = 9999999;
        private static final int MOST_DROPS = 999999999;
        private static final int FIRST_NOTCHES = 12;

        final Moving moving = new Moving();
        final Rope rope = new Rope();
        final Folk folk = new Folk();
        final Roster roster = new Roster();
        final Law law = new Law();
        int frost;
        int cold;
        private final int[] weight = new int[MOST_FARMS];
        private final int[] rest = new int[MOST_FARMS];

        Valley() {
            beginWith(FIRST_NOTCHES);
        }

        void beginWith(int n) {
            moving.clearAllButDraws();
            rope.beginWith(n);
            folk.begin();
            roster.begin();
            law.begin();
            frost = 0;
            cold = 0;
        }

        void copyFrom(Valley other) {
            moving.copyFrom(other.moving);
            rope.copyFrom(other.rope);
            folk.copyFrom(other.folk);
            roster.copyFrom(other.roster);
            law.copyFrom(other.law);
            frost = other.frost;
            cold = other.cold;
        }

        boolean learn(int what, int i, int v) {
            switch (what) {
                case 0: return folk.learnTrait(Folk.ARMS, i, v);
                case 1: return folk.learnTrait(Folk.SLOW, i, v);
                case 2: return folk.learnTrait(Folk.WEEDS, i, v);
                case 3: return folk.learnTrait(Folk.NEED, i, v);
                case 4: return learnHole(i, v);
                case 5: return learnField(i, v);
                case 6: return learnLake(v);
                case 7: return learnFrost(v);
                case 8: return learnCold(v);
                default: return false;
            }
        }

        private boolean learnHole(int b, int v) {
            if (!rope.hasBucket(b) || !isWithin(v, 0, 99)) {
                return false;
            }
            rope.hole[b] = v;
            return true;
        }

        private boolean learnField(int place, int farm) {
            if (!rope.isOverLand(place) || (farm != NONE && !folk.has(farm))) {
                return false;
            }
            rope.field[place] = farm;
            return true;
        }

        private boolean learnLake(int v) {
            if (!isWithin(v, 0, MOST_LAKE) || moving.allDrops() - moving.lake + v > MOST_DROPS) {
                return false;
            }
            moving.lake = v;
            return true;
        }

        private boolean learnFrost(int v) {
            if (!isWithin(v, 0, 60)) {
                return false;
            }
            frost = v;
            return true;
        }

        private boolean learnCold(int v) {
            if (!isWithin(v, 0, 1000)) {
                return false;
            }
            cold = v;
            return true;
        }

        boolean hasTimeFor(int hours) {
            return (moving.hour + hours) / HOURS_OF_DAY + moving.day <= LAST_DAY;
        }

        int weightOf(int farm) {
            return law.weigh(farm, folk, moving);
        }

        int passHour() {
            int made = pull(frostNow());
            moving.hour++;
            if (moving.hour >= HOURS_OF_DAY) {
                passMidnight();
            }
            return made;
        }

        private int frostNow() {
            if (isWithin(moving.hour, 6, 20)) {
                return 0;
            }
            return moving.draw(1000) < cold ? frost : 0;
        }

        private int pull(int frostOfHour) {
            if (!isWithin(moving.hour, 0, HOURS_OF_DAY - 1)) {
                return 0;
            }
            int owner = roster.turnOf[moving.hour];
            int puller = roster.pullerFor(owner, moving.day);
            int holds = rope.stepsItHolds(moving);
            if (!folk.has(owner) || !folk.has(puller) || holds == 0) {
                return 0;
            }
            int made = Math.min(holds, folk.stepsAnHour(puller, frostOfHour));
            rope.moveOn(made, moving);
            moving.pulled[puller] += made;
            moving.pulledToday[puller] += made;
            if (puller != owner) {
                moving.debt[owner * MOST_FARMS + puller]++;
            }
            return made;
        }

        private void passMidnight() {
            shareTrough();
            for (int f = 0; f < folk.farms; f++) {
                drink(f);
            }
            moving.forgetToday();
            moving.hour = 0;
            moving.day++;
        }

        /** All weights are taken ahead of the first share, for shares change the drops they look at. */
        private void shareTrough() {
            int weights = 0;
            for (int f = 0; f < folk.farms; f++) {
                weight[f] = law.weigh(f, folk, moving);
                weights += weight[f];
            }
            if (weights <= 0) {
                return;
            }
            int left = moving.trough;
            for (int f = 0; f < folk.farms; f++) {
                long product = (long) moving.trough * weight[f];
                int given = (int) (product / weights);
                rest[f] = (int) (product % weights);
                moving.drops[f] += given;
                left -= given;
            }
            moving.trough = 0;
            shareRest(left);
        }

        /** What is left is less than the farms with a rest, so each gets one drop at most. */
        private void shareRest(int left) {
            for (int i = 0; i < left && i < folk.farms; i++) {
                int first = 0;
                for (int f = 1; f < folk.farms; f++) {
                    first = rest[f] > rest[first] ? f : first;
                }
                moving.drops[first]++;
                rest[first] = NONE;
            }
        }

        private void drink(int f) {
            int need = folk.trait[Folk.NEED][f];
            int drunk = Math.min(need, moving.drops[f]);
            if (drunk < need) {
                moving.dryDays[f]++;
            }
            moving.drops[f] -= drunk;
            moving.lake += drunk;
        }
    }

    /** The latest hours, each as all was ahead of it. */
    private static final class Past {
        private static final int MOST_KEPT = 8;

        int kept;
        private int next;
        private final Moving[] ahead = new Moving[MOST_KEPT];

        Past() {
            for (int i = 0; i < MOST_KEPT; i++) {
                ahead[i] = new Moving();
            }
        }

        void forget() {
            kept = 0;
        }

        void keep(Moving moving) {
            if (!isWithin(next, 0, MOST_KEPT - 1)) {
                return;
            }
            ahead[next].copyFrom(moving);
            next = next + 1 < MOST_KEPT ? next + 1 : 0;
            kept = Math.min(MOST_KEPT, kept + 1);
        }

        boolean bringBack(Moving moving) {
            if (kept <= 0) {
                return false;
            }
            next = next > 0 ? next - 1 : MOST_KEPT - 1;
            moving.copyFrom(ahead[next]);
            kept--;
            return true;
        }

        /** What is told does not go back with an hour, and telling the draws forgets no hour. */
        void tellDraws(int v) {
            for (int i = 0; i < MOST_KEPT; i++) {
                ahead[i].draws = v;
            }
        }
    }

    /** Seeks among all ways to give the four watches of a day to at most four farms. */
    private static final class Watches {
        private static final int WATCHES = 4;
        private static final int HOURS_OF_WATCH = 6;
        private static final int MOST_WAYS = 256;
        private static final int MOST_SPANS = 240;

        private int found;
        private final int[] chosen = new int[WATCHES];
        private final int[] way = new int[WATCHES];
        private final int[] stepsAnHour = new int[WATCHES];
        /** What the trough has behind so many times HOURS_OF_WATCH steps. */
        private final int[] troughBehind = new int[MOST_SPANS + 1];
        private final Moving thought = new Moving();

        boolean canAnswer(int what, int farms) {
            return (what == 0 || isWithin(what, 10, 10 + WATCHES - 1)) && isWithin(farms, 1, WATCHES);
        }

        int answer(int what) {
            return isWithin(what, 10, 10 + WATCHES - 1) ? chosen[what - 10] : found;
        }

        private void take(int v) {
            found = v;
            System.arraycopy(way, 0, chosen, 0, WATCHES);
        }

        /** The last watch goes fastest, so that the first way found is the first in the document's order. */
        private boolean nextWay(int farms) {
            for (int w = WATCHES - 1; w >= 0; w--) {
                if (way[w] + 1 < farms) {
                    way[w]++;
                    return true;
                }
                way[w] = 0;
            }
            return false;
        }

        /** A step does the same whoever makes it: one walk tells the trough of all ways. */
        void seekMostWater(Valley valley) {
            int farms = Math.min(WATCHES, valley.folk.farms);
            int quickest = 0;
            for (int f = 0; f < farms; f++) {
                stepsAnHour[f] = valley.folk.stepsAnHour(f, 0);
                quickest = Math.max(quickest, stepsAnHour[f]);
            }
            walk(valley, Math.min(MOST_SPANS, quickest * WATCHES));
            Arrays.fill(way, 0);
            found = NONE;
            boolean more = true;
            for (int i = 0; i < MOST_WAYS && more; i++) {
                int water = waterOfWay();
                if (water > found) {
                    take(water);
                }
                more = nextWay(farms);
            }
        }

        private void walk(Valley valley, int spans) {
            thought.copyFrom(valley.moving);
            troughBehind[0] = thought.trough;
            for (int span = 1; span <= spans; span++) {
                valley.rope.moveOn(Math.min(HOURS_OF_WATCH, valley.rope.stepsItHolds(thought)), thought);
                troughBehind[span] = thought.trough;
            }
        }

        private int waterOfWay() {
            int spans = 0;
            for (int w = 0; w < WATCHES; w++) {
                spans += stepsAnHour[way[w]];
            }
            return isWithin(spans, 0, MOST_SPANS) ? troughBehind[spans] : NONE;
        }

        void seekPeace(Folk folk) {
            int farms = Math.min(WATCHES, folk.farms);
            Arrays.fill(way, 0);
            found = WATCHES + 1;
            boolean more = true;
            for (int i = 0; i < MOST_WAYS && more; i++) {
                if (hasEvery(farms)) {
                    int meetings = meetingsOfWay(folk);
                    if (meetings < found) {
                        take(meetings);
                    }
                }
                more = nextWay(farms);
            }
        }

        private boolean hasEvery(int farms) {
            int seen = 0;
            for (int w = 0; w < WATCHES; w++) {
                seen |= 1 << way[w];
            }
            return seen == (1 << farms) - 1;
        }

        private int meetingsOfWay(Folk folk) {
            int meetings = 0;
            int ahead = way[WATCHES - 1];
            for (int w = 0; w < WATCHES; w++) {
                if (folk.areFoes(ahead, way[w])) {
                    meetings++;
                }
                ahead = way[w];
            }
            return meetings;
        }
    }

    /** Settles debts: farms in as many groups as can be that each owe nothing as a whole. */
    private static final class Ledger {
        private static final int SETS = 1 << MOST_FARMS;

        private final int[] net = new int[MOST_FARMS];
        private final int[] sum = new int[SETS];
        private final int[] groups = new int[SETS];

        /** A group of n farms is settled by n - 1 deals, and by no fewer if it has no smaller group in it. */
        int fewestDeals(Moving moving, int farms) {
            int all = Math.max(0, Math.min(MOST_FARMS, farms));
            for (int f = 0; f < all; f++) {
                net[f] = moving.debtOf(f) - moving.creditOf(f);
            }
            int sets = 1 << all;
            for (int set = 1; set < sets; set++) {
                weighSet(set, all);
            }
            return all - groups[sets - 1];
        }

        private void weighSet(int set, int farms) {
            int most = 0;
            for (int f = 0; f < farms; f++) {
                if ((set >> f & 1) == 1) {
                    int without = set ^ 1 << f;
                    sum[set] = sum[without] + net[f];
                    most = Math.max(most, groups[without]);
                }
            }
            groups[set] = sum[set] == 0 ? most + 1 : most;
        }
    }
}
