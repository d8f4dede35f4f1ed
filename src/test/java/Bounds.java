import java.io.IOException;
import java.io.UncheckedIOException;
import java.nio.file.Files;
import java.nio.file.Path;
import java.util.ArrayList;
import java.util.List;
import java.util.function.Supplier;
import java.util.function.ToIntFunction;

/**
 * What the tests of bounds share: the sentence of the document that is tested, answers held against those due, and
 * refused calls, behind which an object must go on just as a twin does that was never asked.
 */
final class Bounds {
    static final int NONE = RopeToALake.NONE;
    static final int NO_SUCH = NONE - 1;
    static final int MIN = Integer.MIN_VALUE;
    static final int MAX = Integer.MAX_VALUE;
    private static final Path DOCUMENT = Path.of("../shared/DOC.md");

    private static String document = null;
    private static String sentence = "";
    private static int sentences = 0;
    private static int wrong = 0;

    private Bounds() { }

    /** A call with the answer as a number; a boolean counts 1 or 0. */
    interface Call {
        long on(RopeToALake x);
    }

    /** A call of which one number is under test. */
    interface Telling {
        long on(RopeToALake x, int v);
    }

    /** Begins the test of one sentence, which must stand in the document word by word, where that can be read. */
    static void sentence(String told) {
        sentence = told;
        sentences++;
        if (!words().isEmpty() && !words().contains(folded(told))) {
            due("these words stand in the document", 0, 1);
        }
    }

    private static String folded(String text) {
        return text.replaceAll("\\s+", " ");
    }

    private static String words() {
        if (document == null) {
            try {
                document = Files.isReadable(DOCUMENT) ? folded(Files.readString(DOCUMENT)) : "";
            } catch (IOException e) {
                throw new UncheckedIOException(e);
            }
        }
        return document;
    }

    static void end() {
        System.out.println(wrong == 0 ? sentences + " sentences hold" : wrong + " answers are not as due");
        if (wrong != 0) {
            System.exit(1);
        }
    }

    static long bit(boolean b) {
        return b ? 1 : 0;
    }

    static void due(String call, long got, long want) {
        if (got != want) {
            wrong++;
            System.out.println("\"" + sentence + "\": " + call + " answered " + got + ", due is " + want);
        }
    }

    static void yes(String call, boolean got) {
        due(call, bit(got), 1);
    }

    static void no(String call, boolean got) {
        due(call, bit(got), 0);
    }

    private static void same(String call, List<String> got, List<String> want) {
        for (int i = 0; i < Math.max(got.size(), want.size()); i++) {
            String g = i < got.size() ? got.get(i) : "nothing";
            String w = i < want.size() ? want.get(i) : "nothing";
            if (!g.equals(w)) {
                wrong++;
                System.out.println("\"" + sentence + "\": behind " + call + " there is " + g + ", due is " + w);
                return;
            }
        }
    }

    /** Two objects look alike now. */
    static void sameSight(String call, RopeToALake got, RopeToALake want) {
        same(call, sight(got), sight(want));
    }

    /** Two objects look alike now, but for what can be undone. */
    static void sameButKept(String call, RopeToALake got, RopeToALake want) {
        List<String> g = sight(got);
        List<String> w = sight(want);
        g.removeIf(seen -> seen.startsWith("look(10)"));
        w.removeIf(seen -> seen.startsWith("look(10)"));
        same(call, g, w);
    }

    /** Two objects look alike now and whatever comes; neither is of use behind this. */
    static void sameFuture(String call, RopeToALake got, RopeToALake want) {
        same(call, future(got), future(want));
    }

    /** The call is refused in a new valley, in one that goes its way, and in one that is full; nothing changes. */
    static void refused(String name, long answer, Call call) {
        refusedIn(Valleys::bare, name + " in a new valley", answer, call);
        refusedIn(Valleys::busy, name + " in a busy valley", answer, call);
        refusedIn(Valleys::full, name + " in a full valley", answer, call);
    }

    static void refusedIn(Supplier<RopeToALake> maker, String name, long answer, Call call) {
        RopeToALake x = maker.get();
        due(name, call.on(x), answer);
        sameFuture(name, x, maker.get());
    }

    /** A question changes nothing, whatever it answers. */
    static void asked(Supplier<RopeToALake> maker, String name, Call call) {
        RopeToALake x = maker.get();
        call.on(x);
        sameFuture(name, x, maker.get());
    }

    /** From least to most a number is taken and then seen; the first ones beyond are refused, and change nothing. */
    static void range(String name, int least, int most, Supplier<RopeToALake> maker, Telling call, long refusal,
            ToIntFunction<RopeToALake> seen) {
        for (int v : new int[] {least, most}) {
            RopeToALake x = maker.get();
            long answer = call.on(x, v);
            due(name + " " + v + " is refused", bit(answer == refusal), 0);
            due(name + " " + v + " as it is seen", seen.applyAsInt(x), v);
        }
        for (int v : new int[] {least - 1, most + 1, MIN, MAX}) {
            refusedIn(maker, name + " " + v, refusal, x -> call.on(x, v));
        }
    }

    /** All that questions tell. */
    static List<String> sight(RopeToALake x) {
        List<String> seen = new ArrayList<>();
        for (int w = -1; w <= 91; w++) {
            seen.add("look(" + w + ") = " + x.look(w));
        }
        for (int i = -1; i <= 10; i++) {
            for (int w = -1; w <= 13; w++) {
                seen.add("of(" + i + ", " + w + ") = " + x.of(i, w));
            }
            for (int w = -1; w <= 5; w++) {
                seen.add("pail(" + i + ", " + w + ") = " + x.pail(i, w));
                seen.add("part(" + i + ", " + w + ") = " + x.part(i, w));
            }
            for (int b = -1; b <= 9; b++) {
                seen.add("owes(" + i + ", " + b + ") = " + x.owes(i, b));
            }
            seen.add("slow(" + i + ") = " + x.slow(i, 0) + ", " + x.slow(i, 1));
        }
        seen.add("deals() = " + x.deals());
        for (int w : new int[] {0, 10, 11, 12, 13}) {
            seen.add("best(" + w + ") = " + x.best(w));
            seen.add("peace(" + w + ") = " + x.peace(w));
        }
        for (int n : new int[] {1, 40, 3000, 99999}) {
            seen.add("breaks(" + n + ") = " + x.breaks(n));
            seen.add("lasting(" + n + ") = " + x.lasting(n, 0) + ", " + x.lasting(n, 1));
        }
        seen.add("fault = " + x.fault(0) + ", " + x.fault(1));
        return seen;
    }

    /** All that can be found out of an object by using it up: what it has now, keeps back, and comes to. */
    private static List<String> future(RopeToALake x) {
        List<String> seen = new ArrayList<>(sight(x));
        for (int i = 0; i < 9; i++) {
            seen.add("undo() = " + x.undo());
            seen.add("STATE, LAKE then = " + x.look(15) + ", " + x.look(1));
        }
        seen.addAll(sight(x));
        seen.add("feed = " + x.feed(0x20202020, 0x20202020, 0x20202020, 0x20202020, 0x20202020));
        seen.add("text() = " + x.text());
        fillUp(x, seen);
        goOn(x, seen);
        seen.add("image(false) = " + x.image(false));
        seen.addAll(sight(x));
        fillUp(x, seen);
        goOn(x, seen);
        return seen;
    }

    private static void goOn(RopeToALake x, List<String> seen) {
        seen.add("hours(30) = " + x.hours(30));
        seen.addAll(sight(x));
    }

    /** Tells more than can be, so that what is already there shows by what is refused. */
    private static void fillUp(RopeToALake x, List<String> seen) {
        for (int i = 0; i < 10; i++) {
            seen.add("farm = " + x.farm(7, 1, 1, 1));
            seen.add("splice = " + x.splice(5000, 1, 1));
            seen.add("peace = " + x.peace(0) + ", " + x.peace(11) + ", " + x.peace(12) + ", " + x.peace(13));
        }
        for (int i = 0; i < 41; i++) {
            seen.add("bucket at notch " + i + " = " + x.bucket(i, 5, 1));
            seen.add("log " + i + " = " + x.log(i % 2, 9));
        }
        for (int day = 0; day < 16; day++) {
            for (int f = 0; f < 9; f += 2) {
                seen.add("absent " + f + " on " + day + " = " + x.absent(f, day, (f + 1) % 9));
            }
        }
        seen.addAll(sight(x));
    }
}
