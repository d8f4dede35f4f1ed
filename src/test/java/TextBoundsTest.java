/** The bounds that part 3 of the Terms and the promises 12 to 15 name, a test for each sentence. */
public final class TextBoundsTest {
    private static final int NONE = Bounds.NONE;
    private static final int MIN = Bounds.MIN;
    private static final int MAX = Bounds.MAX;
    private static final int BLANKS = 0x20202020;
    private static final String[] UNITS =
        {"farm", "pulled", "arms", "weeds", "need", "drops", "wet", "dry", "owes", "day"};

    public static void main(String[] args) {
        tapeOf400();
        feedRefused();
        highestByteFirst();
        cutTape();
        endRefused();
        tapeIsEmptyBehindText();
        lawStaysBehindFault();
        lawOf400Bytes();
        lawEmptyAtFirst();
        faultOfLatestText();
        faultOfAnotherWhat();
        keywords();
        wordsThatAreNone();
        numbers();
        signs();
        blanks();
        endOfText();
        firstFault();
        leastFaultAtAPlace();
        partByZero();
        seventeenthLine();
        ninthOpen();
        openOnesThatClose();
        grammarOfLines();
        grammarOfConditions();
        grammarOfSums();
        intsWrap();
        partsTowardsZero();
        weightHeld();
        firstLineThatIsSo();
        comparisons();
        Bounds.end();
    }

    private static void good(String text, int lines) {
        RopeToALake x = new RopeToALake();
        Valleys.put(x, text);
        Bounds.due("text " + text, x.text(), lines);
        Bounds.due("fault(0) of " + text, x.fault(0), 0);
        Bounds.due("fault(1) of " + text, x.fault(1), NONE);
        Bounds.due("lines of " + text, x.look(12), lines);
    }

    private static void bad(String text, int what, int place) {
        RopeToALake x = new RopeToALake();
        Valleys.law(x, "share 7;share 8;");
        Valleys.put(x, text);
        Bounds.due("text " + text, x.text(), NONE);
        Bounds.due("fault(0) of " + text, x.fault(0), what);
        Bounds.due("fault(1) of " + text, x.fault(1), place);
        Bounds.due("lines behind " + text, x.look(12), 2);
    }

    /** The weight of farm 1 of three, which has 40 arms, 6 weeds and a need of 700. */
    private static void weight(String text, int due) {
        RopeToALake x = new RopeToALake();
        x.farm(20, 1, 2, 30);
        x.farm(40, 5, 6, 700);
        x.farm(0, 0, 0, 0);
        Valleys.law(x, text);
        Bounds.due("weight by " + text, x.of(1, 10), due);
    }

    private static void tapeOf400() {
        Bounds.sentence("Twenty bytes come behind the TAPE, of each number the highest first: how many it has.");
        RopeToALake x = new RopeToALake();
        for (int bytes = 20; bytes <= 400; bytes += 20) {
            Bounds.due("feed", x.feed(BLANKS, BLANKS, BLANKS, BLANKS, BLANKS), bytes);
        }
        Bounds.due("the 401st byte", x.feed(BLANKS, BLANKS, BLANKS, BLANKS, BLANKS), NONE);
        Bounds.yes("end(400)", x.end(400));
        Bounds.due("text of 400 blanks", x.text(), 0);
        Bounds.due("feed of numbers below 0", x.feed(MIN, -1, MAX, 0, 1), 20);
    }

    private static void feedRefused() {
        Bounds.sentence("NONE, and nothing comes, if there would be more than 400.");
        Bounds.refusedIn(Valleys::full, "feed", NONE, x -> x.feed(1, 2, 3, 4, 5));
        for (int bytes = 381; bytes <= 399; bytes++) {
            int left = bytes;
            Bounds.refusedIn(() -> cutFull(left), "feed behind " + bytes, NONE, x -> x.feed(1, 2, 3, 4, 5));
        }
        RopeToALake x = cutFull(380);
        Bounds.due("feed behind 380", x.feed(BLANKS, BLANKS, BLANKS, BLANKS, 0x2020203B), 400);
        Bounds.due("its text", x.text(), NONE);
        Bounds.due("its fault is the last byte's", x.fault(1), 399);
    }

    private static RopeToALake cutFull(int bytes) {
        RopeToALake x = Valleys.full();
        Valleys.need(x.end(bytes));
        return x;
    }

    private static void highestByteFirst() {
        Bounds.sentence("of each number the highest first");
        for (int at = 0; at < 20; at++) {
            int[] n = {BLANKS, BLANKS, BLANKS, BLANKS, BLANKS};
            int shift = 24 - 8 * (at % 4);
            n[at / 4] = BLANKS & ~(255 << shift) | 255 << shift;
            RopeToALake x = new RopeToALake();
            x.feed(n[0], n[1], n[2], n[3], n[4]);
            Bounds.due("text with a 255 at " + at, x.text(), NONE);
            Bounds.due("fault(0)", x.fault(0), 1);
            Bounds.due("fault(1)", x.fault(1), at);
        }
    }

    private static void cutTape() {
        Bounds.sentence("The TAPE has its first n bytes alone: true");
        for (int n = 0; n <= 40; n++) {
            RopeToALake x = new RopeToALake();
            Valleys.put(x, "share 1;share 2;share 3;share 4;share 5;");
            Bounds.yes("end(" + n + ")", x.end(n));
            Bounds.yes("end(" + n + ") again", x.end(n));
            Bounds.due("text of " + n, x.text(), n % 8 == 0 ? n / 8 : NONE);
            Bounds.due("fault of " + n, x.fault(1), n % 8 == 0 ? NONE : n % 8 < 5 ? n / 8 * 8 : n);
        }
        RopeToALake x = new RopeToALake();
        Bounds.yes("end(0) of an empty tape", x.end(0));
        Valleys.put(x, "share 1;???");
        x.end(8);
        Bounds.due("behind the cut", x.feed(BLANKS, BLANKS, BLANKS, BLANKS, BLANKS), 28);
        Bounds.due("what was cut off is gone", x.text(), 1);
    }

    private static void endRefused() {
        Bounds.sentence("false, changing nothing, if it has not so many, or n is below 0");
        for (int n : new int[] {MIN, -1, 9, 400, 401, MAX}) {
            Bounds.refusedIn(Valleys::busy, "end(" + n + ") of 8", 0, x -> Bounds.bit(x.end(n)));
        }
        for (int n : new int[] {MIN, -1, 401, MAX}) {
            Bounds.refusedIn(Valleys::full, "end(" + n + ") of 400", 0, x -> Bounds.bit(x.end(n)));
        }
        for (int n : new int[] {MIN, -1, 1, 20, MAX}) {
            Bounds.refusedIn(Valleys::bare, "end(" + n + ") of 0", 0, x -> Bounds.bit(x.end(n)));
        }
        Bounds.yes("end(8) of 8", Valleys.busy().end(8));
        Bounds.yes("end(400) of 400", Valleys.full().end(400));
    }

    private static void tapeIsEmptyBehindText() {
        Bounds.sentence("The TAPE, empty then, is THE LAW: how many lines.");
        for (String text : new String[] {"share 1;", "share", "", Valleys.lines(16)}) {
            RopeToALake x = new RopeToALake();
            Valleys.put(x, text);
            x.text();
            Bounds.no("end(1) behind text " + text, x.end(1));
            Bounds.due("feed behind text " + text, x.feed(BLANKS, BLANKS, BLANKS, BLANKS, BLANKS), 20);
        }
        RopeToALake x = Valleys.withFarms(1);
        Valleys.law(x, "share 5;");
        Bounds.due("an empty text", x.text(), 0);
        Bounds.due("is a law of no lines", x.look(12), 0);
        Bounds.due("by which a WEIGHT is", x.of(0, 10), 0);
    }

    private static void lawStaysBehindFault() {
        Bounds.sentence("NONE: a FAULT (it stays as it was).");
        for (String text : new String[] {"?", "share 1", "share 1;share 2/0;", Valleys.lines(16) + "share 1;",
            "share 1;share 2 when not not not not not not not not not 1=1;"}) {
            RopeToALake x = Valleys.withFarms(2);
            Valleys.law(x, "share 3 when farm=1;share 4;");
            x.hours(5);
            Valleys.put(x, text);
            Bounds.due("text " + text, x.text(), NONE);
            Bounds.due("lines", x.look(12), 2);
            Bounds.due("weight of farm 0", x.of(0, 10), 4);
            Bounds.due("weight of farm 1", x.of(1, 10), 3);
            Bounds.due("what can be undone", x.look(10), 5);
        }
    }

    private static void lawOf400Bytes() {
        Bounds.sentence("if there would be more than 400");
        String sum = "share 1" + "+1".repeat(196) + ";";
        Bounds.due("its length", sum.length(), 400);
        weight(sum, 197);
        weight("share 1" + "*1".repeat(196) + ";", 1);
        weight("share 0 when 1=2" + " or 1=2".repeat(54) + ";", 0);
        weight("share 3 when 1=2" + " or 1=2".repeat(53) + " or 1=1 ;", 3);
        bad("share 1" + "+1".repeat(196) + "+", 1, 400);
        bad("share 1" + "+1".repeat(196) + "?", 1, 399);
        bad(" ".repeat(399) + "(", 1, 399);
        good(" ".repeat(392) + "share 1;", 1);
        good("\n".repeat(400), 0);
        bad(";".repeat(400), 1, 0);
        bad("share 1;" + "(".repeat(392), 1, 8);
        bad("share 1" + "+".repeat(393), 1, 8);
        bad("a1".repeat(200), 1, 0);
    }

    private static void lawEmptyAtFirst() {
        Bounds.sentence("THE LAW is a TEXT (empty at first)");
        RopeToALake x = Valleys.withFarms(9);
        Bounds.due("lines", x.look(12), 0);
        for (int f = 0; f < 9; f++) {
            Bounds.due("weight", x.of(f, 10), 0);
        }
    }

    private static void faultOfLatestText() {
        Bounds.sentence("Of the latest text(): what 0 the FAULT (0 without one), 1 its place (NONE).");
        RopeToALake x = new RopeToALake();
        Bounds.due("fault(0) ahead of any", x.fault(0), 0);
        Bounds.due("fault(1) ahead of any", x.fault(1), NONE);
        for (int i = 0; i < 2; i++) {
            Valleys.put(x, "share 4/0;");
            Bounds.due("fault(0) ahead of text()", x.fault(0), 0);
            x.text();
            Bounds.due("fault(0)", x.fault(0), 2);
            Bounds.due("fault(1)", x.fault(1), 8);
            x.feed(1, 2, 3, 4, 5);
            x.end(0);
            x.hours(1);
            x.undo();
            Bounds.due("fault(0) till the next text()", x.fault(0), 2);
            Valleys.put(x, "?");
            x.text();
            Bounds.due("fault(1) at the first byte", x.fault(1), 0);
            Valleys.law(x, "share 1;");
            Bounds.due("fault(0) behind a good one", x.fault(0), 0);
            Bounds.due("fault(1) behind a good one", x.fault(1), NONE);
        }
    }

    private static void faultOfAnotherWhat() {
        Bounds.sentence("1 its place (NONE). NONE for another what.");
        RopeToALake x = Valleys.busy();
        Bounds.due("fault(0)", x.fault(0), 1);
        Bounds.due("fault(1)", x.fault(1), 6);
        for (int w : new int[] {MIN, -1, 2, 3, MAX}) {
            Bounds.due("fault(" + w + ")", x.fault(w), NONE);
        }
        Bounds.asked(Valleys::busy, "fault", y -> y.fault(0) + y.fault(1) + y.fault(2));
    }

    private static void keywords() {
        Bounds.sentence("U = NUMBER | farm | pulled | arms | weeds | need | drops | wet | dry | owes | day.");
        for (String word : UNITS) {
            good("share " + word + ";", 1);
            good("share " + word + "*" + word + "+" + word + "-" + word + " when " + word + "<" + word + ";", 1);
            bad("share 1/" + word + ";", 1, 8);
        }
        for (String word : new String[] {"share", "when", "or", "and", "not"}) {
            bad("share " + word + ";", 1, 6);
            bad("share 1+" + word + ";", 1, 8);
        }
    }

    private static void wordsThatAreNone() {
        Bounds.sentence("letters as many as stand together are KEYWORDS (those told here) or none");
        for (String word : UNITS) {
            bad("share " + word.substring(1) + ";", 1, 6);
            bad("share " + word.substring(0, word.length() - 1) + ";", 1, 6);
            bad("share " + word + "s;", 1, 6);
            bad("share " + word + "Z;", 1, 6);
            bad("share a" + word + ";", 1, 6);
            bad("share z" + word + ";", 1, 6);
            bad("share " + word.toUpperCase() + ";", 1, 6);
            bad("share " + word.substring(0, 1) + " " + word.substring(1) + ";", 1, 6);
            bad("share " + word + word + ";", 1, 6);
        }
        bad("sharefarm;", 1, 0);
        bad("shar 1;", 1, 0);
        bad("hare 1;", 1, 0);
        bad("share 1 whe 1=1;", 1, 8);
        bad("share 1 whena 1=1;", 1, 8);
        bad("share 1 when 1=1 an 1=1;", 1, 17);
        bad("share 1 when 1=1 o 1=1;", 1, 17);
        bad("share 1 when no 1=1;", 1, 13);
        bad("share 1 when notnot 1=1;", 1, 13);
        good("share 1when 1=1and 1=1or 1=1;share1;", 2);
    }

    private static void numbers() {
        Bounds.sentence("digits as many as stand together NUMBERS of 1 to 4 digits or none");
        weight("share 0;", 0);
        weight("share 9;", 9);
        weight("share 9999;", 9999);
        weight("share 0009;", 9);
        weight("share 0000;", 0);
        weight("share 1234;", 1234);
        bad("share 10000;", 1, 6);
        bad("share 00001;", 1, 6);
        bad("share 00000;", 1, 6);
        bad("share 4294967297;", 1, 6);
        bad("share " + "9".repeat(393) + ";", 1, 6);
        bad("share 1 2;", 1, 8);
        bad("share 1 when 12345=1;", 1, 13);
        bad("share 1/12345;", 1, 8);
        weight("share 8/0004;", 2);
        weight("share 9999/9999;", 1);
        bad("share 1farm;", 1, 7);
        bad("share farm1;", 1, 10);
    }

    /** Each byte behind a number: what can stand there makes the ; or the end the fault, or none. */
    private static void signs() {
        Bounds.sentence("; + - * / ( ) < = > . Blanks (32, 10) between.");
        for (int sign = 0; sign <= 255; sign++) {
            String text = "share 1" + (char) sign + ";";
            if (sign == 32 || sign == 10 || sign >= '0' && sign <= '9') {
                good(text, 1);
            } else if (sign == ';' || sign == '+' || sign == '-' || sign == '*' || sign == '/') {
                bad(text, 1, 8);
            } else {
                bad(text, 1, 7);
            }
            String alone = "" + (char) sign;
            if (sign == 32 || sign == 10) {
                good(alone, 0);
            } else {
                bad(alone, 1, 0);
            }
        }
    }

    private static void blanks() {
        Bounds.sentence("Blanks (32, 10) between.");
        good(" \n share \n 1 \n + \n 2 \n when \n ( \n 1 \n = \n 1 \n ) \n ; \n ", 1);
        good("share\n1\nwhen\nnot\n1\n=\n1\n;", 1);
        for (int sign : new int[] {0, 9, 11, 12, 13, 31, 33, 160, 255}) {
            bad("share" + (char) sign + "1;", 1, 5);
            bad("share 1;" + (char) sign, 1, 8);
        }
        weight("share 1 1 ;".replace("1 1", "1\n+ 1"), 2);
    }

    private static void endOfText() {
        Bounds.sentence("1 what can't stand there (the end: the text's length)");
        bad("share", 1, 5);
        bad("share ", 1, 6);
        bad("share  \n", 1, 8);
        bad("share 1", 1, 7);
        bad("share 1 ", 1, 8);
        bad("share 1+", 1, 8);
        bad("share 1/", 1, 8);
        bad("share 1 when", 1, 12);
        bad("share 1 when not ", 1, 17);
        bad("share 1 when (", 1, 14);
        bad("share 1 when (1=1", 1, 17);
        bad("share 1 when 1=1 and", 1, 20);
        bad("share 1 when 1", 1, 14);
        bad("share 1 when 1=", 1, 15);
        bad("share 1;share" + " ".repeat(387), 1, 400);
    }

    private static void firstFault() {
        Bounds.sentence("FAULTS, the first by its place, at one place the least");
        bad("share ? 1/0;", 1, 6);
        bad("share 1/0 ?", 2, 8);
        bad("share 1/0;share 1/0;", 2, 8);
        bad("share 1/0 when (((((((((1=1", 2, 8);
        bad("share 1 when (((((((((1/0=1", 3, 21);
        bad("share 1 when ((((((((1/0=1", 2, 23);
        bad("share 1 when ((((((((?", 1, 21);
        bad(Valleys.lines(15) + "share 1/0;share 1;", 2, 15 * 17 + 8);
        bad(Valleys.lines(16) + "share 1/0;", 3, 16 * 17);
        bad(Valleys.lines(16) + "share", 3, 16 * 17);
        bad(Valleys.lines(16) + "? share 1;", 1, 16 * 17);
        bad("share 12345/0;", 1, 6);
    }

    private static void leastFaultAtAPlace() {
        Bounds.sentence("at one place the least");
        bad("share 1 when ((((((((1(", 1, 22);
        bad("share 1 when ((((((((1=1(", 1, 24);
        bad("share 1 when ((((((((1=1 not", 1, 25);
        bad("share 1 when ((((((((1=not", 1, 23);
        bad("share 1 when ((((((((1+(", 1, 23);
        bad(Valleys.lines(15) + "share 1 share 1;", 1, 15 * 17 + 8);
        bad(Valleys.lines(15) + "share share 1;", 1, 15 * 17 + 6);
        bad(Valleys.lines(15) + "share 1 when 1=1 share", 1, 15 * 17 + 17);
        bad("share 1/00000;", 1, 8);
        bad("share 0/0;", 2, 8);
        bad("share /0;", 1, 6);
    }

    private static void partByZero() {
        Bounds.sentence("2 (at the NUMBER) a part by 0.");
        for (String zero : new String[] {"0", "00", "000", "0000"}) {
            bad("share 1/" + zero + ";", 2, 8);
            bad("share 1 / " + zero + ";", 2, 10);
            bad("share 1*2/3/" + zero, 2, 12);
            bad("share 1 when 1/" + zero + "=1;", 2, 15);
            bad("share 1 when 1=2/" + zero + ";", 2, 17);
        }
        good("share 1/1/01/001/0001;", 1);
        good("share 0/1;", 1);
        good("share 1*0-0+0;", 1);
        bad("share 0;share 1 when 1=2;share 3/0;", 2, 33);
    }

    private static void seventeenthLine() {
        Bounds.sentence("3 (at its KEYWORD) the 17th line");
        for (int lines = 0; lines <= 16; lines++) {
            good("share 1;".repeat(lines), lines);
        }
        bad("share 1;".repeat(16) + "share 1;", 3, 128);
        bad("share 1;".repeat(17) + "share 1;", 3, 128);
        bad("share 1;".repeat(16) + " \n share 1;", 3, 131);
        bad("share 1;".repeat(50), 3, 128);
        bad("share 1;".repeat(16) + "shares", 1, 128);
        bad("share 1;".repeat(16) + ";", 1, 128);
        good("share 1;".repeat(16) + " \n", 16);
        bad("share 1;".repeat(15) + "share 1", 1, 127);
        RopeToALake x = Valleys.withFarms(1);
        Valleys.law(x, Valleys.lines(15) + "share 77;");
        Bounds.due("the 16th line is read", x.of(0, 10), 77);
    }

    private static void ninthOpen() {
        Bounds.sentence("(at it) the 9th ( or not that is open");
        for (int nots = 0; nots <= 9; nots++) {
            int brackets = 9 - nots;
            String head = "share 1 when " + "not ".repeat(nots) + "(".repeat(brackets);
            int last = brackets > 0 ? head.length() - 1 : head.length() - 4;
            bad(head + "1=1" + ")".repeat(brackets) + ";", 3, last);
            bad(head, 3, last);
            if (nots > 0) {
                String eight = "share 1 when " + "not ".repeat(nots - 1) + "(".repeat(brackets);
                good(eight + "1=1" + ")".repeat(brackets) + ";", 1);
            }
            String other = "share 1 when " + "(".repeat(brackets) + "not ".repeat(nots);
            int lastOther = nots > 0 ? other.length() - 4 : other.length() - 1;
            bad(other + "1=1" + ")".repeat(brackets) + ";", 3, lastOther);
        }
        weight("share 5 when " + "not ".repeat(8) + "1=1;", 5);
        weight("share 5 when " + "not ".repeat(7) + "1=1;", 0);
        weight("share 5 when " + "not(".repeat(4) + "1=1" + ")".repeat(4) + ";", 5);
        bad("share 1 when " + "not(".repeat(50), 3, 13 + 16);
    }

    private static void openOnesThatClose() {
        Bounds.sentence("the 9th ( or not that is open");
        good("share 1 when " + "(1=1) and ".repeat(20) + "(1=1);", 1);
        good("share 1 when " + "not 1=1 or ".repeat(20) + "not 1=1;", 1);
        good("share 1 when ((((((((1=1)))))))) or ((((((((1=1))))))));", 1);
        good("share 1 when not not not not not not not not 1=1 and not not not not not not not not 1=1;", 1);
        good("share 1 when (((((((not 1=1 and not 1=1 and (1=1))))))));", 1);
        bad("share 1 when (((((((not 1=1 and not (1=1))))))));", 3, 36);
        bad("share 1 when (((((((1=1)))))) and (((((((", 1, 41);
        bad("share 1 when (((((((1=1)))))) and ((((((((", 3, 41);
        good("share 1 when ((((((((1=1))))))));share 1 when ((((((((1=1))))))));", 2);
        bad("share 1 when ((((((((1=1)))))))) and not ((((((((1=1", 3, 48);
        good("share 1 when not (1=1) and not ((((((( 1=1 )))))));", 1);
    }

    private static void grammarOfLines() {
        Bounds.sentence("THE LAW is a TEXT (empty at first) = {share E [when B] ;}.");
        good("", 0);
        good("share 1;", 1);
        good("share 1 when 1=1;", 1);
        bad(";", 1, 0);
        bad("share;", 1, 5);
        bad("share 1;;", 1, 8);
        bad("share 1 share 1;", 1, 8);
        bad("when 1=1;", 1, 0);
        bad("share when 1=1;", 1, 6);
        bad("share 1 when;", 1, 12);
        bad("share 1 when 1=1 when 1=1;", 1, 17);
        bad("share 1=1;", 1, 7);
        bad("share (1);", 1, 6);
        bad("share not 1=1;", 1, 6);
        bad("share 1 and 1;", 1, 8);
    }

    private static void grammarOfConditions() {
        Bounds.sentence("C = E (< | = | >) E | not C | ( B ).");
        for (String sign : new String[] {"<", "=", ">"}) {
            good("share 1 when 1" + sign + "1;", 1);
            bad("share 1 when 1" + sign + sign + "1;", 1, 15);
            bad("share 1 when 1" + sign + ";", 1, 15);
            bad("share 1 when " + sign + "1;", 1, 13);
            bad("share 1 when 1" + sign + "1" + sign + "1;", 1, 16);
            bad("share 1 when 1" + sign + "(1);", 1, 15);
            bad("share 1 when (1)" + sign + "1;", 1, 15);
        }
        bad("share 1 when 1;", 1, 14);
        bad("share 1 when ();", 1, 14);
        bad("share 1 when (1=1;", 1, 17);
        bad("share 1 when 1=1);", 1, 16);
        bad("share 1 when (1=1));", 1, 18);
        bad("share 1 when (1=1)(1=1);", 1, 18);
        bad("share 1 when not;", 1, 16);
        bad("share 1 when 1=1 not 1=1;", 1, 17);
        bad("share 1 when and 1=1;", 1, 13);
        bad("share 1 when 1=1 or;", 1, 19);
        bad("share 1 when 1=1 or and 1=1;", 1, 20);
        bad("share 1 when 1=1 1=1;", 1, 17);
    }

    private static void grammarOfSums() {
        Bounds.sentence("E = T {(+ | -) T}. T = U {* U | / NUMBER}.");
        bad("share -1;", 1, 6);
        bad("share +1;", 1, 6);
        bad("share *1;", 1, 6);
        bad("share 1+;", 1, 8);
        bad("share 1--1;", 1, 8);
        bad("share 1*/1;", 1, 8);
        bad("share 1/-1;", 1, 8);
        bad("share 1/(1);", 1, 8);
        bad("share 1/;", 1, 8);
        weight("share 1+2*3;", 7);
        weight("share 2*3+1;", 7);
        weight("share 20-2-3;", 15);
        weight("share 20-2+3;", 21);
        weight("share 20-2*3-4;", 10);
        weight("share 7/2*2;", 6);
        weight("share 2*7/2;", 7);
        weight("share 100/7/2;", 7);
        weight("share 1+9/2*3-2*2;", 9);
    }

    private static void intsWrap() {
        Bounds.sentence("Ints, which wrap; / goes towards 0.");
        // 8192 * 8192 * 32 is 2 to the 31st: the least int; one less is the greatest
        weight("share 1 when 8192*8192*32<0;", 1);
        weight("share 1 when 8192*8192*32-1>0;", 1);
        weight("share 1 when 8192*8192*32-1+1<0;", 1);
        weight("share 1 when 0-8192*8192*32<0;", 1);
        weight("share 1 when 8192*8192*64=0;", 1);
        weight("share 8192*8192*64+5;", 5);
        weight("share 8192*8192*32-1;", 9999);
        weight("share 8192*8192*32;", 0);
        weight("share 1 when 8192*8192*16+8192*8192*16<0;", 1);
    }

    private static void partsTowardsZero() {
        Bounds.sentence("/ goes towards 0");
        // 8192 * 8192 * 32 is -2147483648: by 3 it is -715827882 towards 0, by 9999 it is -214769
        weight("share 8192*8192*32/3+715*1000*1000+827*1000+882+4;", 4);
        weight("share 8192*8192*32/9999+214*1000+769+6;", 6);
        weight("share 1 when 8192*8192*32/1<0;", 1);
        weight("share 7/8;", 0);
        weight("share 8/8;", 1);
        weight("share 9-7/2;", 6);
        // 3117 * 8251 * 167 wraps to -7, which by 2 is -3 towards 0; 947 * 7319 * 1859 wraps to -1
        weight("share 10+3117*8251*167;", 3);
        weight("share 10+3117*8251*167/2;", 7);
        weight("share 10+3117*8251*167/7;", 9);
        weight("share 10+3117*8251*167/8;", 10);
        weight("share 10+947*7319*1859;", 9);
        weight("share 10+947*7319*1859/2;", 10);
        weight("share 10+947*7319*1859/1;", 9);
        weight("share 1 when 8192*8192*32/9999=0-214*1000-769;", 1);
    }

    private static void weightHeld() {
        Bounds.sentence("(none: 0), held to 0 .. 9999");
        weight("share 9998+1;", 9999);
        weight("share 9999+1;", 9999);
        weight("share 9999*9999;", 9999);
        weight("share 1-1;", 0);
        weight("share 1-2;", 0);
        weight("share 2-1;", 1);
        weight("share 0-9999;", 0);
        weight("share 1 when 9999+1>9999;", 1);
        weight("share 1 when 0-1<0;", 1);
        weight("share 1 when 1=2;", 0);
    }

    private static void firstLineThatIsSo() {
        Bounds.sentence("E of the first line whose B is so, or that has none");
        weight("share 1;share 2;", 1);
        weight("share 1 when 1=2;share 2;share 3;", 2);
        weight("share 1 when 1=1;share 2;", 1);
        weight("share 0 when 1=1;share 2;", 0);
        weight("share 0-5 when 1=1;share 2;", 0);
        weight("share 1 when 1=2;share 2 when 2=3;", 0);
        weight("share farm+4 when farm>0;share 9;", 5);
        weight("share 3 when 1=1 or 1=1 and 1=2;", 3);
        weight("share 3 when 1=2 and 1=2 or 1=1;", 3);
        weight("share 3 when 1=2 and (1=2 or 1=1);", 0);
        weight("share 3 when not 1=2 and 1=2;", 0);
        weight("share 3 when not (1=2 and 1=2);", 3);
        weight("share 3 when not 1=1 or 1=1;", 3);
    }

    private static void comparisons() {
        Bounds.sentence("C = E (< | = | >) E");
        weight("share 1 when arms<40;share 2 when arms<41;", 2);
        weight("share 1 when arms>40;share 2 when arms>39;", 2);
        weight("share 1 when arms=39;share 2 when arms=41;share 3 when arms=40;", 3);
        weight("share 1 when need/7<100;share 2 when need/7>100;share 3;", 3);
    }
}
