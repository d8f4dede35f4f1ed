import java.util.ArrayDeque;
import java.util.ArrayList;
import java.util.Arrays;
import java.util.List;
import java.util.Random;

/**
 * The document told a second time, as plainly as can be and with the whole Java library, so that
 * RandomRunsTest can hold RopeToALake against it: steps are walked one by one, ways are tried one by one,
 * the law is a tree, deals are searched for, and undo keeps whole worlds.
 */
final class Oracle {
    static final int NONE = -1;

    /** A whole valley. */
    static final class World {
        int n = 12;
        int state;
        long lake;
        long trough;
        int turned;
        int day;
        int hour;
        int stepsInAll;
        int frost;
        int cold;
        List<int[]> buckets = new ArrayList<>();   // notch, size, hole, drops
        List<int[]> farms = new ArrayList<>();     // arms, slow, weeds, need, drops, pulled, today, wet, today, dry
        List<int[]> splices = new ArrayList<>();   // strength, wear, price
        int[] field = none(40);
        int[] turns = none(24);
        List<int[]> absences = new ArrayList<>();  // farm, day, by
        boolean[][] foe = new boolean[9][9];
        int[][] debt = new int[9][9];
        List<int[]> logs = new ArrayList<>();      // farm, steps
        List<Line> law = new ArrayList<>();

        World copy() {
            World w = new World();
            w.n = n;
            w.state = state;
            w.lake = lake;
            w.trough = trough;
            w.turned = turned;
            w.day = day;
            w.hour = hour;
            w.stepsInAll = stepsInAll;
            w.frost = frost;
            w.cold = cold;
            w.buckets = rows(buckets);
            w.farms = rows(farms);
            w.splices = rows(splices);
            w.field = field.clone();
            w.turns = turns.clone();
            w.absences = rows(absences);
            w.logs = rows(logs);
            w.law = new ArrayList<>(law);
            for (int i = 0; i < 9; i++) {
                w.foe[i] = foe[i].clone();
                w.debt[i] = debt[i].clone();
            }
            return w;
        }

        private static List<int[]> rows(List<int[]> of) {
            List<int[]> all = new ArrayList<>();
            for (int[] row : of) {
                all.add(row.clone());
            }
            return all;
        }
    }

    /** A line of the law. */
    record Line(Node weight, Node when) { }

    /** A part of a line: what it is, a number, and its own parts. */
    record Node(String kind, int number, Node left, Node right) { }

    /** What the reader of the law stops with. */
    static final class Fault extends RuntimeException {
        final int what;
        final int place;

        Fault(int what, int place) {
            this.what = what;
            this.place = place;
        }
    }

    World w = new World();
    World image;
    ArrayDeque<World> past = new ArrayDeque<>();
    List<Integer> tape = new ArrayList<>();
    int faultWhat = 0;
    int faultPlace = NONE;

    static int[] none(int n) {
        int[] row = new int[n];
        Arrays.fill(row, NONE);
        return row;
    }

    static boolean in(int v, int low, int high) {
        return low <= v && v <= high;
    }

    boolean isFarm(int f) {
        return in(f, 0, w.farms.size() - 1);
    }

    int state(int v) {
        int was = w.state;
        w.state = v;
        for (World old : past) {
            old.state = v;
        }
        return was;
    }

    boolean notches(int n) {
        if (n < 8 || n > 40 || n % 2 == 1) {
            return false;
        }
        World fresh = new World();
        fresh.n = n;
        fresh.state = w.state;
        w = fresh;
        past.clear();
        return true;
    }

    int bucket(int notch, int size, int hole) {
        boolean can = in(notch, 0, w.n - 1) && in(size, 1, 99) && in(hole, 0, 99) && w.buckets.size() < 10;
        for (int[] b : w.buckets) {
            can &= b[0] != notch;
        }
        if (!can) {
            return NONE;
        }
        past.clear();
        w.buckets.add(new int[] {notch, size, hole, 0});
        return w.buckets.size() - 1;
    }

    int farm(int arms, int slow, int weeds, int need) {
        if (!in(arms, 0, 60) || !in(slow, 0, 60) || !in(weeds, 0, 9) || !in(need, 0, 9999)
                || w.farms.size() == 9) {
            return NONE;
        }
        past.clear();
        w.farms.add(new int[] {arms, slow, weeds, need, 0, 0, 0, 0, 0, 0});
        return w.farms.size() - 1;
    }

    boolean tell(int what, int i, int v) {
        boolean can = false;
        int[] most = {60, 60, 9, 9999};
        if (in(what, 0, 3) && isFarm(i) && in(v, 0, most[what])) {
            w.farms.get(i)[what] = v;
            can = true;
        } else if (what == 4 && in(i, 0, w.buckets.size() - 1) && in(v, 0, 99)) {
            w.buckets.get(i)[2] = v;
            can = true;
        } else if (what == 5 && in(i, 1, w.n - 1) && i * 2 != w.n && (v == NONE || isFarm(v))) {
            w.field[i] = v;
            can = true;
        } else if (what == 6 && in(v, 0, 9999999) && all() - w.lake + v <= 999999999) {
            w.lake = v;
            can = true;
        } else if (what == 7 && in(v, 0, 60)) {
            w.frost = v;
            can = true;
        } else if (what == 8 && in(v, 0, 1000)) {
            w.cold = v;
            can = true;
        }
        if (can) {
            past.clear();
        }
        return can;
    }

    long all() {
        long all = w.lake + w.trough;
        for (int[] b : w.buckets) {
            all += b[3];
        }
        for (int[] f : w.farms) {
            all += f[4];
        }
        return all;
    }

    boolean turn(int hour, int farm) {
        if (!in(hour, 0, 23) || (farm != NONE && !isFarm(farm))) {
            return false;
        }
        w.turns[hour] = farm;
        return true;
    }

    boolean absent(int farm, int day, int by) {
        boolean can = isFarm(farm) && isFarm(by) && farm != by && in(day, 0, 9999) && w.absences.size() < 30;
        for (int[] a : w.absences) {
            if (a[1] == day && (a[0] == farm || a[0] == by || a[2] == farm || a[2] == by)) {
                can = false;
            }
        }
        if (can) {
            past.clear();
            w.absences.add(new int[] {farm, day, by});
        }
        return can;
    }

    int splice(int strength, int wear, int price) {
        if (!in(strength, 0, 99999) || !in(wear, 0, 99) || !in(price, 0, 9999) || w.splices.size() == 8) {
            return NONE;
        }
        past.clear();
        w.splices.add(new int[] {strength, wear, price});
        return w.splices.size() - 1;
    }

    boolean mend(int splice, int strength) {
        if (!in(splice, 0, w.splices.size() - 1) || !in(strength, 1, 99999)) {
            return false;
        }
        past.clear();
        w.splices.get(splice)[0] = strength;
        return true;
    }

    boolean foes(int a, int b, boolean are) {
        if (!isFarm(a) || !isFarm(b) || a == b) {
            return false;
        }
        w.foe[a][b] = are;
        w.foe[b][a] = are;
        return true;
    }

    int feed(int... numbers) {
        if (tape.size() > 380) {
            return NONE;
        }
        for (int number : numbers) {
            for (int i = 3; i >= 0; i--) {
                tape.add(number >> 8 * i & 255);
            }
        }
        return tape.size();
    }

    boolean end(int n) {
        if (n < 0 || n > tape.size()) {
            return false;
        }
        tape = new ArrayList<>(tape.subList(0, n));
        return true;
    }

    int text() {
        StringBuilder text = new StringBuilder();
        for (int sign : tape) {
            text.append((char) sign);
        }
        tape.clear();
        faultWhat = 0;
        faultPlace = NONE;
        try {
            w.law = new LawReader(text.toString()).law();
            return w.law.size();
        } catch (Fault f) {
            faultWhat = f.what;
            faultPlace = f.place;
            return NONE;
        }
    }

    int fault(int what) {
        return what == 0 ? faultWhat : what == 1 ? faultPlace : NONE;
    }

    int hours(int n) {
        if (!in(n, 1, 240) || (w.day * 24 + w.hour + n) / 24 > 9999) {
            return NONE;
        }
        int before = w.stepsInAll;
        for (int i = 0; i < n; i++) {
            past.addLast(w.copy());
            if (past.size() > 8) {
                past.removeFirst();
            }
            hour();
        }
        return w.stepsInAll - before;
    }

    static boolean broken(World w) {
        for (int[] s : w.splices) {
            if (s[0] == 0) {
                return true;
            }
        }
        return false;
    }

    int steps(int farm, boolean frost) {
        int steps = w.farms.get(farm)[0] - w.farms.get(farm)[1] - (frost ? w.frost : 0);
        for (int f = 0; f < w.farms.size(); f++) {
            steps -= f == farm ? 0 : w.farms.get(f)[2];
        }
        return Math.max(steps, 0);
    }

    void hour() {
        boolean frost = false;
        if (w.hour < 6 || w.hour > 20) {
            w.state = w.state * 1664525 + 1013904223;
            frost = (w.state >>> 8) % 1000 < w.cold;
        }
        int owner = w.turns[w.hour];
        if (owner != NONE && !broken(w)) {
            int puller = owner;
            for (int[] a : w.absences) {
                if (a[0] == owner && a[1] == w.day) {
                    puller = a[2];
                }
            }
            int due = steps(puller, frost);
            for (int i = 0; i < due && !broken(w); i++) {
                step(w);
                w.farms.get(puller)[5]++;
                w.farms.get(puller)[6]++;
            }
            if (puller != owner) {
                w.debt[owner][puller]++;
            }
        }
        w.hour++;
        if (w.hour == 24) {
            midnight();
        }
    }

    static void step(World w) {
        w.stepsInAll++;
        w.turned = (w.turned + 1) % w.n;
        for (int[] b : w.buckets) {
            int place = (b[0] + w.turned) % w.n;
            if (place == 0) {
                while (b[3] < b[1] && w.lake > 0) {
                    b[3]++;
                    w.lake--;
                }
            } else if (place == w.n / 2) {
                w.trough += b[3];
                b[3] = 0;
            } else {
                for (int i = 0; i < b[2] && b[3] > 0; i++) {
                    b[3]--;
                    if (w.field[place] == NONE) {
                        w.lake++;
                    } else {
                        w.farms.get(w.field[place])[4]++;
                        w.farms.get(w.field[place])[7]++;
                        w.farms.get(w.field[place])[8]++;
                    }
                }
            }
        }
        for (int[] s : w.splices) {
            s[0] = s[0] > s[1] ? s[0] - s[1] : 0;
        }
    }

    void midnight() {
        int farms = w.farms.size();
        long[] weights = new long[farms];
        long together = 0;
        for (int f = 0; f < farms; f++) {
            weights[f] = weight(f);
            together += weights[f];
        }
        if (together > 0) {
            long shared = w.trough;
            List<Integer> order = new ArrayList<>();
            for (int f = 0; f < farms; f++) {
                order.add(f);
                w.farms.get(f)[4] += shared * weights[f] / together;
                w.trough -= shared * weights[f] / together;
            }
            long all = together;
            order.sort((a, b) -> Long.compare(shared * weights[b] % all, shared * weights[a] % all));
            for (int i = 0; w.trough > 0; i++) {
                w.farms.get(order.get(i))[4]++;
                w.trough--;
            }
        }
        for (int[] f : w.farms) {
            if (f[4] < f[3]) {
                f[9]++;
            }
            int drunk = Math.min(f[4], f[3]);
            f[4] -= drunk;
            w.lake += drunk;
            f[6] = 0;
            f[8] = 0;
        }
        w.hour = 0;
        w.day++;
    }

    int sumOwed(int farm, boolean byIt) {
        int sum = 0;
        for (int i = 0; i < 9; i++) {
            sum += byIt ? w.debt[farm][i] : w.debt[i][farm];
        }
        return sum;
    }

    int weight(int farm) {
        for (Line line : w.law) {
            if (line.when == null || value(line.when, farm) != 0) {
                return Math.min(9999, Math.max(0, value(line.weight, farm)));
            }
        }
        return 0;
    }

    int value(Node node, int farm) {
        int[] f = w.farms.get(farm);
        int l = node.left == null ? 0 : value(node.left, farm);
        int r = node.right == null ? 0 : value(node.right, farm);
        return switch (node.kind) {
            case "number" -> node.number;
            case "farm" -> farm;
            case "pulled" -> f[6];
            case "arms" -> f[0];
            case "weeds" -> f[2];
            case "need" -> f[3];
            case "drops" -> f[4];
            case "wet" -> f[8];
            case "dry" -> f[9];
            case "owes" -> sumOwed(farm, true);
            case "day" -> w.day;
            case "+" -> l + r;
            case "-" -> l - r;
            case "*" -> l * r;
            case "/" -> l / r;
            case "<" -> l < r ? 1 : 0;
            case "=" -> l == r ? 1 : 0;
            case ">" -> l > r ? 1 : 0;
            case "not" -> l == 0 ? 1 : 0;
            case "and" -> l != 0 && r != 0 ? 1 : 0;
            case "or" -> l != 0 || r != 0 ? 1 : 0;
            default -> throw new IllegalStateException(node.kind);
        };
    }

    int of(int farm, int what) {
        if (!isFarm(farm)) {
            return -2;
        }
        if (in(what, 0, 9)) {
            return w.farms.get(farm)[what];
        }
        return what == 10 ? weight(farm) : what == 11 ? sumOwed(farm, true)
                : what == 12 ? sumOwed(farm, false) : -2;
    }

    int pail(int bucket, int what) {
        if (!in(bucket, 0, w.buckets.size() - 1) || !in(what, 0, 4)) {
            return NONE;
        }
        int[] b = w.buckets.get(bucket);
        return what == 4 ? (b[0] + w.stepsInAll) % w.n : b[what];
    }

    int part(int splice, int what) {
        return in(splice, 0, w.splices.size() - 1) && in(what, 0, 2) ? w.splices.get(splice)[what] : NONE;
    }

    int owes(int a, int b) {
        return isFarm(a) && isFarm(b) && a != b ? w.debt[a][b] : NONE;
    }

    int deals() {
        int[] net = new int[w.farms.size()];
        for (int f = 0; f < net.length; f++) {
            net[f] = sumOwed(f, true) - sumOwed(f, false);
        }
        return settle(net, 0);
    }

    /** The first that owes or is owed deals with each of the other side in turn, clearing itself. */
    private static int settle(int[] net, int from) {
        while (from < net.length && net[from] == 0) {
            from++;
        }
        if (from == net.length) {
            return 0;
        }
        int least = Integer.MAX_VALUE;
        for (int i = from + 1; i < net.length; i++) {
            if (net[i] != 0 && net[i] > 0 != net[from] > 0) {
                net[i] += net[from];
                least = Math.min(least, 1 + settle(net, from + 1));
                net[i] -= net[from];
            }
        }
        return least;
    }

    int best(int what) {
        int farms = w.farms.size();
        if (farms < 1 || farms > 4 || what != 0 && !in(what, 10, 13)) {
            return NONE;
        }
        long most = -1;
        int[] best = null;
        for (int[] way : ways(farms)) {
            World thought = w.copy();
            for (int h = 0; h < 24; h++) {
                int due = steps(way[h / 6], false);
                for (int i = 0; i < due && !broken(thought); i++) {
                    step(thought);
                }
            }
            if (thought.trough > most) {
                most = thought.trough;
                best = way;
            }
        }
        return what == 0 ? (int) most : best[what - 10];
    }

    int peace(int what) {
        int farms = w.farms.size();
        if (farms < 1 || farms > 4 || what != 0 && !in(what, 10, 13)) {
            return NONE;
        }
        int fewest = 5;
        int[] best = null;
        for (int[] way : ways(farms)) {
            if (Arrays.stream(way).distinct().count() == farms) {
                int met = 0;
                for (int i = 0; i < 4; i++) {
                    met += w.foe[way[(i + 3) % 4]][way[i]] ? 1 : 0;
                }
                if (met < fewest) {
                    fewest = met;
                    best = way;
                }
            }
        }
        return what == 0 ? fewest : best[what - 10];
    }

    private static List<int[]> ways(int farms) {
        List<int[]> ways = new ArrayList<>();
        for (int a = 0; a < farms; a++) {
            for (int b = 0; b < farms; b++) {
                for (int c = 0; c < farms; c++) {
                    for (int d = 0; d < farms; d++) {
                        ways.add(new int[] {a, b, c, d});
                    }
                }
            }
        }
        return ways;
    }

    boolean log(int farm, int steps) {
        if (!isFarm(farm) || !in(steps, 0, 60) || w.logs.size() == 40) {
            return false;
        }
        w.logs.add(new int[] {farm, steps});
        return true;
    }

    int slow(int farm, int what) {
        if (!isFarm(farm) || !in(what, 0, 1)) {
            return NONE;
        }
        int quick = w.farms.get(farm)[0];
        for (int f = 0; f < w.farms.size(); f++) {
            quick -= f == farm ? 0 : w.farms.get(f)[2];
        }
        int least = 0;
        int most = 60;
        for (int[] log : w.logs) {
            if (log[0] == farm) {
                least = Math.max(least, quick - log[1]);
                if (log[1] > 0) {
                    most = Math.min(most, quick - log[1]);
                }
            }
        }
        return least > most ? NONE : what == 0 ? least : most;
    }

    /** Steps until the splice is at 0, walked; above n if it is not within n. */
    private int walkToBreak(int[] splice, int n) {
        int strength = splice[0];
        int steps = 0;
        while (strength > 0 && steps <= n) {
            strength -= splice[1];
            steps++;
        }
        return steps;
    }

    int breaks(int n) {
        if (!in(n, 1, 99999)) {
            return NONE;
        }
        int first = NONE;
        int least = n + 1;
        for (int s = w.splices.size() - 1; s >= 0; s--) {
            int steps = walkToBreak(w.splices.get(s), n);
            if (steps <= n && steps <= least) {
                least = steps;
                first = s;
            }
        }
        return first;
    }

    int lasting(int n, int what) {
        if (!in(n, 1, 99999) || !in(what, 0, 1)) {
            return NONE;
        }
        int prices = 0;
        int set = 0;
        for (int s = 0; s < w.splices.size(); s++) {
            if (walkToBreak(w.splices.get(s), n) <= n) {
                prices += w.splices.get(s)[2];
                set += 1 << s;
            }
        }
        return what == 0 ? prices : set;
    }

    boolean undo() {
        if (past.isEmpty()) {
            return false;
        }
        World back = past.removeLast();
        back.turns = w.turns;
        back.law = w.law;
        back.logs = w.logs;
        back.foe = w.foe;
        w = back;
        return true;
    }

    boolean image(boolean taken) {
        if (taken) {
            image = w.copy();
            return true;
        }
        if (image == null) {
            return false;
        }
        w = image.copy();
        past.clear();
        return true;
    }

    int look(int what) {
        if (in(what, 20, 43)) {
            return w.turns[what - 20];
        }
        if (in(what, 50, 50 + w.n - 1)) {
            return w.field[what - 50];
        }
        return switch (what) {
            case 0 -> w.n;
            case 1 -> (int) w.lake;
            case 2 -> (int) w.trough;
            case 3 -> w.buckets.size();
            case 4 -> w.farms.size();
            case 5 -> w.splices.size();
            case 6 -> w.day;
            case 7 -> w.hour;
            case 8 -> broken(w) ? 1 : 0;
            case 9 -> w.stepsInAll;
            case 10 -> past.size();
            case 11 -> (int) all();
            case 12 -> w.law.size();
            case 13 -> w.frost;
            case 14 -> w.cold;
            case 15 -> w.state;
            default -> -2;
        };
    }

    /** Reads a law: first all tokens, then the grammar over them. */
    static final class LawReader {
        private static final List<String> WORDS = List.of("share", "when", "or", "and", "not", "farm", "pulled",
                "arms", "weeds", "need", "drops", "wet", "dry", "owes", "day");
        private final List<String> tokens = new ArrayList<>();
        private final List<Integer> places = new ArrayList<>();
        private int i = 0;
        private int open = 0;

        LawReader(String text) {
            java.util.regex.Matcher m =
                    java.util.regex.Pattern.compile("[A-Za-z]+|[0-9]+|[^ \n]", java.util.regex.Pattern.DOTALL)
                            .matcher(text);
            while (m.find()) {
                String t = m.group();
                boolean good = WORDS.contains(t) || t.matches("[0-9]{1,4}") || t.matches("[-;+*/()<=>]");
                tokens.add(good ? t : "?");
                places.add(m.start());
            }
            tokens.add("end");
            places.add(text.length());
        }

        private Fault fault(int what) {
            return new Fault(what, places.get(i));
        }

        private boolean take(String token) {
            if (tokens.get(i).equals(token)) {
                i++;
                return true;
            }
            return false;
        }

        private void need(String token) {
            if (!take(token)) {
                throw fault(1);
            }
        }

        private boolean isNumber() {
            return Character.isDigit(tokens.get(i).charAt(0));
        }

        List<Line> law() {
            List<Line> law = new ArrayList<>();
            while (!tokens.get(i).equals("end")) {
                if (tokens.get(i).equals("share") && law.size() == 16) {
                    throw fault(3);
                }
                need("share");
                Node weight = sum();
                Node when = take("when") ? or() : null;
                need(";");
                law.add(new Line(weight, when));
            }
            return law;
        }

        private Node or() {
            Node left = and();
            while (take("or")) {
                left = new Node("or", 0, left, and());
            }
            return left;
        }

        private Node and() {
            Node left = condition();
            while (take("and")) {
                left = new Node("and", 0, left, condition());
            }
            return left;
        }

        private Node condition() {
            if ((tokens.get(i).equals("not") || tokens.get(i).equals("(")) && open == 8) {
                throw fault(3);
            }
            if (take("not")) {
                open++;
                Node inner = condition();
                open--;
                return new Node("not", 0, inner, null);
            }
            if (take("(")) {
                open++;
                Node inner = or();
                need(")");
                open--;
                return inner;
            }
            Node left = sum();
            String sign = tokens.get(i);
            if (!take("<") && !take("=") && !take(">")) {
                throw fault(1);
            }
            return new Node(sign, 0, left, sum());
        }

        private Node sum() {
            Node left = product();
            while (true) {
                if (take("+")) {
                    left = new Node("+", 0, left, product());
                } else if (take("-")) {
                    left = new Node("-", 0, left, product());
                } else {
                    return left;
                }
            }
        }

        private Node product() {
            Node left = unit();
            while (true) {
                if (take("*")) {
                    left = new Node("*", 0, left, unit());
                } else if (take("/")) {
                    if (isNumber() && Integer.parseInt(tokens.get(i)) == 0) {
                        throw fault(2);
                    }
                    if (!isNumber()) {
                        throw fault(1);
                    }
                    left = new Node("/", 0, left, unit());
                } else {
                    return left;
                }
            }
        }

        private Node unit() {
            String token = tokens.get(i);
            if (isNumber()) {
                i++;
                return new Node("number", Integer.parseInt(token), null, null);
            }
            if (WORDS.indexOf(token) >= 5) {
                i++;
                return new Node(token, 0, null, null);
            }
            throw fault(1);
        }
    }

    /** Random texts: mostly laws, some spoiled by one sign. */
    static String randomText(Random r) {
        StringBuilder text = new StringBuilder();
        int lines = r.nextInt(12) == 0 ? 14 + r.nextInt(5) : r.nextInt(4);
        for (int i = 0; i < lines; i++) {
            boolean plain = lines > 8;
            text.append("share ").append(plain ? "1" : randomSum(r));
            if (!plain && r.nextInt(3) > 0) {
                text.append(" when ").append(randomCondition(r, r.nextInt(5) == 0 ? 9 : 3));
            }
            text.append(r.nextBoolean() ? ";" : " ;\n");
        }
        if (r.nextInt(3) == 0 && text.length() > 0) {
            int at = r.nextInt(text.length());
            String spoil = ";+-*/()<=>0123456789 \n?zN_\t\u00e9";
            switch (r.nextInt(3)) {
                case 0 -> text.deleteCharAt(at);
                case 1 -> text.setCharAt(at, spoil.charAt(r.nextInt(spoil.length())));
                default -> text.insert(at, spoil.charAt(r.nextInt(spoil.length())));
            }
        }
        return text.length() > 400 ? text.substring(0, 400) : text.toString();
    }

    private static String randomUnit(Random r) {
        String[] words = {"farm", "pulled", "arms", "weeds", "need", "drops", "wet", "dry", "owes", "day"};
        return r.nextInt(3) == 0 ? Integer.toString(r.nextInt(r.nextInt(4) == 0 ? 12000 : 12))
                : words[r.nextInt(words.length)];
    }

    private static String randomSum(Random r) {
        StringBuilder sum = new StringBuilder(randomUnit(r));
        while (r.nextInt(3) == 0) {
            switch (r.nextInt(5)) {
                case 0 -> sum.append("+").append(randomUnit(r));
                case 1 -> sum.append(" - ").append(randomUnit(r));
                case 2, 3 -> sum.append("*").append(randomUnit(r));
                default -> sum.append("/").append(r.nextInt(9) == 0 ? r.nextInt(3) : 1 + r.nextInt(20));
            }
        }
        return sum.toString();
    }

    private static String randomCondition(Random r, int depth) {
        switch (depth > 0 ? r.nextInt(6) : 5) {
            case 0: return "not " + randomCondition(r, depth - 1);
            case 1: return "(" + randomCondition(r, depth - 1) + ")";
            case 2: return randomCondition(r, depth - 1) + " and " + randomCondition(r, depth / 2);
            case 3: return randomCondition(r, depth - 1) + " or " + randomCondition(r, depth / 2);
            default: return randomSum(r) + "<=>".charAt(r.nextInt(3)) + randomSum(r);
        }
    }
}
