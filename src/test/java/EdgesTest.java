import java.io.IOException;
import java.nio.charset.StandardCharsets;
import java.nio.file.Files;
import java.nio.file.Path;
import java.util.HashSet;
import java.util.Set;
import java.util.function.Consumer;

/**
 * Each sentence of the document that names an edge, in the document's order: a test of its own on a new object,
 * with answers worked out by hand. The words of each test are looked for in the document, so that none is made up.
 */
public final class EdgesTest {
    private static final Path DOCUMENT = Path.of("..", "shared", "DOC.md");
    private static final int PROMISES = 36;
    private static final int TERMS = 0;
    private static final long LONGS = 4000000000000000000L;
    private static final int LOW = Integer.MIN_VALUE;
    private static final int HIGH = Integer.MAX_VALUE;
    private static final int[] NO_SECONDS = {0, 41, -1, LOW, HIGH};
    private static final int[] NO_PARTS = {-1, 2, LOW, HIGH};

    private static String document = "";
    private static final Set<Integer> tested = new HashSet<>();
    private static String words = "";
    private static int edges = 0;
    private static int wrong = 0;

    public static void main(String[] args) throws IOException {
        if (Files.exists(DOCUMENT)) document = Files.readString(DOCUMENT, StandardCharsets.UTF_8).replaceAll("\\s+", " ");
        else System.out.println(DOCUMENT + " is not there: the words of the tests are not looked for");
        numbers();
        shedLetters(); shedStatements(); shedFaults();
        strips(); eyes(); trying();
        partsAndBest(); giveAndGoOn(); enoughStrips();
        rulesAndEyes(); limitsAndCosts(); rows(); lotsOfSheds();
        images(); refusalsOfAll();
        promisesOfState(); promisesOfStrips(); promisesOfSheets(); promisesOfPlans(); promisesOfRows(); promisesOfTheRest();
        for (int promise = 1; promise <= PROMISES; promise++) {
            if (!tested.contains(promise)) fail("promise " + promise + " has no test of an edge");
        }
        System.out.println(edges + " edges, " + wrong + " answers wrong");
        if (wrong != 0) System.exit(1);
    }

    private static void edge(int promise, String sentence, Consumer<StripInFiveSteps> test) {
        words = (promise == TERMS ? "" : "promise " + promise + ": ") + sentence;
        edges++;
        tested.add(promise);
        if (!document.isEmpty() && !part(promise).contains(sentence)) fail("the document does not say so there");
        try {
            test.accept(new StripInFiveSteps());
        } catch (RuntimeException | StackOverflowError thrown) {
            fail("threw " + thrown);
        }
    }

    private static String part(int promise) {
        if (promise == TERMS) return document.substring(0, document.indexOf("## Promise 1:"));
        String next = promise == PROMISES ? "## Not promised" : "## Promise " + (promise + 1) + ":";
        return document.substring(document.indexOf("## Promise " + promise + ":"), document.indexOf(next));
    }

    private static void fail(String what) {
        wrong++;
        System.out.println("[" + words + "] " + what);
    }

    private static void due(String call, long got, long want) {
        if (got != want) fail(call + " answered " + got + ", due is " + want);
    }

    private static void fraction(String call, long above, long below, long wantAbove, long wantBelow) {
        due(call + " above the line", above, wantAbove);
        due(call + " below the line", below, wantBelow);
    }

    private static int shed(StripInFiveSteps x, String text) {
        for (int i = 0; i < text.length(); i++) due("letter " + i + " of " + text, x.letter(text.charAt(i)), i + 1);
        return x.shed();
    }

    private static int shedOfNew(String text) {
        return shed(new StripInFiveSteps(), text);
    }

    private static StripInFiveSteps after(String text) {
        StripInFiveSteps x = new StripInFiveSteps();
        int statements = text.length() - text.replace(";", "").length();
        due(text, shed(x, text), statements);
        return x;
    }

    private static StripInFiveSteps withNoneLeft() {
        return after("l01400;");
    }

    /** Only the SECONDS named are LEFT, each LIKELY 1. */
    private static StripInFiveSteps withLeft(String text, int... seconds) {
        StripInFiveSteps x = after(text + "l01400;");
        for (int r : seconds) x.make(r, 1);
        return x;
    }

    private static void likelyAre(StripInFiveSteps x, int from, int to, int want) {
        for (int r = from; r <= to; r++) due("likely(" + r + ")", x.likely(r), want);
    }

    private static void bandsAre(String text, int v, int... seconds) {
        StripInFiveSteps x = after(text);
        for (int i = 0; i < seconds.length; i++) due(text + " band(" + v + ", " + i + ")", x.band(v, i), seconds[i]);
    }

    private static void tells(String text, int v, int... secondsAndBands) {
        StripInFiveSteps x = after(text);
        for (int i = 0; i + 1 < secondsAndBands.length; i += 2) {
            due(text + " told(" + v + ", " + secondsAndBands[i] + ")", x.told(v, secondsAndBands[i]), secondsAndBands[i + 1]);
        }
    }

    private static StripInFiveSteps withRow(StripInFiveSteps x, int... numbers) {
        for (int number : numbers) x.row(number);
        return x;
    }

    private static void tryAll(StripInFiveSteps x, int times) {
        for (int n = 0; n < times; n++) due("a strip that parts nothing", x.tryIt(40, 0), 40);
    }

    /** All that can be asked of the state without changing it. */
    private static String stateOf(StripInFiveSteps x) {
        StringBuilder state = new StringBuilder();
        for (int what = 0; what <= 9; what++) state.append(x.count(what)).append(' ');
        for (int r = 1; r <= 40; r++) state.append(x.likely(r));
        for (int what = 0; what < 2; what++) {
            int kind = x.kind(what, 0);
            x.kind(what, kind);
            state.append(' ').append(kind);
        }
        return state.append(' ').append(x.stays()).toString();
    }

    private static void same(String what, String got, String want) {
        if (!got.equals(want)) fail(what + ": " + got + ", due is " + want);
    }

    private static void numbers() {
        edge(TERMS, "at most 512 calls after it has been made", x -> {
            for (int n = 1; n <= 511; n++) due("likely(0)", x.likely(0), -1);
            due("the 512th call", x.count(11), 511);
        });
        edge(TERMS, "SECONDS 1 .. 40", x -> {
            due("likely(1)", x.likely(1), 1);
            due("likely(40)", x.likely(40), 1);
            for (int r : NO_SECONDS) due("likely(" + r + ")", x.likely(r), -1);
        });
        edge(TERMS, "how LIKELY each is the right one (0 .. 9; 1 at first)", x -> {
            likelyAre(x, 1, 40, 1);
            due("make(7, 0)", x.make(7, 0), 1);
            due("make(7, 9)", x.make(7, 9), 0);
            due("make(7, -1)", x.make(7, -1), -4);
            due("make(7, 10)", x.make(7, 10), -6);
            due("likely(7)", x.likely(7), 9);
        });
        setting("BANDS (2 .. 7: 5 at first)", 0, 5, 2, 7);
        setting("STEP (1 .. 9: 2 at first)", 1, 2, 1, 9);
        setting("FIGURE (0 .. 9; 0 at first)", 2, 0, 0, 9);
        setting("PRICE of a strip (0 .. 99: 5 at first)", 3, 5, 0, 99);
        setting("FAULT of a sheet for each SECOND off (0 .. 99: 4 at first)", 4, 4, 0, 99);
        edge(TERMS, "TRIED strips (0 .. 99; 0 at first)", x -> {
            due("TRIED at first", x.count(2), 0);
            tryAll(x, 99);
            due("TRIED", x.count(2), 99);
            due("the 100th", x.tryIt(40, 0), -6);
            due("TRIED", x.count(2), 99);
        });
    }

    private static void setting(String sentence, int what, int first, int least, int greatest) {
        edge(TERMS, sentence, x -> {
            due("at first", x.count(3 + what), first);
            due("the least", x.set(what, least), first);
            due("the greatest", x.set(what, greatest), least);
            due("below the least", x.set(what, least - 1), -4);
            due("above the greatest", x.set(what, greatest + 1), -6);
            due("it stays", x.count(3 + what), greatest);
        });
    }

    private static void shedLetters() {
        edge(TERMS, "one by one (96 at most)", x -> {
            for (int n = 1; n <= 96; n++) due("letter " + n, x.letter("b6;".charAt((n - 1) % 3)), n);
            due("the 97th", x.letter('b'), -6);
            due("how many there are", x.count(9), 96);
            due("shed()", x.shed(), 32);
            due("room again", x.letter('b'), 1);
        });
        edge(TERMS, "STATEMENTS, each with \";\" behind", x -> {
            due("b5", shedOfNew("b5"), -1002);
            due("b5b6;", shedOfNew("b5b6;"), -1002);
            due(";", shedOfNew(";"), -1000);
            due("b5;;", shedOfNew("b5;;"), -1003);
            due("b5;b6;", shed(x, "b5;b6;"), 2);
        });
        edge(TERMS, "At least one STATEMENT.", x -> {
            due("no letters", x.shed(), -1000);
            due("one STATEMENT", shed(x, "b6;"), 1);
            due("no letters again", x.shed(), -1000);
        });
    }

    private static void shedStatements() {
        edge(TERMS, "two SECONDS (2 digits each, the first no more than the other)", x -> {
            due("the same", shed(x, "l07073;"), 1);
            due("the first is more", shedOfNew("l08073;"), -2000);
            due("the least", shedOfNew("l01013;"), 1);
            due("the greatest", shedOfNew("l40403;"), 1);
            due("below the least", shedOfNew("l00013;"), -2000);
            due("above the greatest", shedOfNew("l40413;"), -2000);
            due("a digit lacks", shedOfNew("l7073;"), -1005);
            due("a digit more", shedOfNew("l070773;"), -1006);
        });
        edge(TERMS, "LIKELY (a digit): all from the one to the other", x -> {
            shed(x, "l05090;l31399;");
            likelyAre(x, 1, 4, 1);
            likelyAre(x, 5, 9, 0);
            likelyAre(x, 10, 30, 1);
            likelyAre(x, 31, 39, 9);
            likelyAre(x, 40, 40, 1);
        });
        edge(TERMS, "\"b\" BANDS (a digit)", x -> {
            for (int bands = 2; bands <= 7; bands++) due("BANDS", after("b" + bands + ";").count(3), bands);
            for (String text : new String[] {"b0;", "b1;", "b8;", "b9;"}) due(text, shedOfNew(text), -2000);
            due("two digits", shedOfNew("b05;"), -1002);
        });
        edge(TERMS, "\"s\" a letter of a KIND of STRIPS, STEP (a digit)", x -> {
            for (int kind = 0; kind < 4; kind++) due("KIND", after("s" + "adhb".charAt(kind) + "1;").kind(0, 0), kind);
            for (int step = 1; step <= 9; step++) due("STEP", after("sa" + step + ";").count(4), step);
            due("STEP 0", shedOfNew("sa0;"), -2000);
            due("a letter of an EYE", shedOfNew("sc1;"), -1001);
            due("two digits", shedOfNew("sa11;"), -1003);
        });
        edge(TERMS, "\"e\" a letter of a KIND of EYE, FIGURE (a digit)", x -> {
            for (int kind = 0; kind < 5; kind++) due("KIND", after("e" + "ewdsc".charAt(kind) + "0;").kind(1, 0), kind);
            for (int figure = 0; figure <= 9; figure++) due("FIGURE", after("ee" + figure + ";").count(5), figure);
            due("a letter of STRIPS", shedOfNew("ea0;"), -1001);
            due("two digits", shedOfNew("ee00;"), -1003);
        });
        edge(TERMS, "\"p\" PRICE, FAULT (2 digits each)", x -> {
            due("the least", shed(x, "p0000;"), 1);
            due("PRICE", x.count(6), 0);
            due("FAULT", x.count(7), 0);
            due("the greatest", shed(x, "p9998;"), 1);
            due("PRICE", x.count(6), 99);
            due("FAULT", x.count(7), 98);
            due("a digit lacks", shedOfNew("p999;"), -1004);
            due("a digit more", shedOfNew("p99999;"), -1005);
        });
        edge(TERMS, "a strip from that SECOND on is TRIED, and that was told of it", x -> {
            due("the first SECOND, the first BAND", after("t010;").count(0), 2);
            due("the first SECOND, the last BAND", after("t014;").count(0), 32);
            due("the last SECOND", after("t400;").count(0), 40);
            due("TRIED", after("t400;t010;").count(2), 2);
            for (String text : new String[] {"t000;", "t410;", "t990;", "t015;", "t017;", "t018;", "t019;"}) {
                due(text, shedOfNew(text), -2000);
            }
            due("8, a CAREFUL eye", after("ec0;t018;").count(0), 35);
            due("a digit lacks", shedOfNew("t01;"), -1003);
            due("a digit more", shedOfNew("t0100;"), -1004);
        });
    }

    private static void shedFaults() {
        String many = "b5;".repeat(31);
        edge(TERMS, "kind 1 the place of the first letter with which no SHED can go on", x -> {
            due("the first", shedOfNew("xb5;"), -1000);
            due("a letter that only stands later", shedOfNew("a"), -1000);
            due("the second", shedOfNew("bb;"), -1001);
            due("behind a STATEMENT", shedOfNew("b5;x"), -1003);
            due("the first of two", shedOfNew("bxsx;"), -1001);
            due("a great letter", shedOfNew("B5;"), -1000);
            due("the last of 96", shedOfNew(many + "b5x"), -1095);
            due("below the digits", shedOfNew("b/;"), -1001);
            due("above the digits", shedOfNew("b:;"), -1001);
            due("letter(0)", x.letter(0), 1);
            due("shed()", x.shed(), -1000);
        });
        edge(TERMS, "(the end, if something lacks): -1000 less the place", x -> {
            String[] texts = {"b", "b5", "b5;l", "l", "l0140", "l01401", "s", "sa", "sa1", "e", "ec", "ec1",
                "p", "p010", "p0101", "t", "t01", "t010"};
            for (String text : texts) due(text, shedOfNew(text), -1000 - text.length());
            due("96 letters", shed(x, many + "l01"), -1096);
        });
        edge(TERMS, "else kind 2 the place of the first letter", x -> {
            due("kind 1 goes ahead, though behind", shedOfNew("b1;x"), -1003);
            due("so if something lacks", shedOfNew("l01400;t010;b"), -1013);
            due("kind 2", shedOfNew("b1;"), -2000);
        });
        edge(TERMS, "of the first STATEMENT that, behind all ahead of it in the text, is not as it must be", x -> {
            due("more BANDS ahead", shedOfNew("b7;t016;"), 2);
            due("fewer BANDS ahead", shedOfNew("b2;t012;"), -2003);
            due("a strip ahead", shedOfNew("t010;t013;"), -2005);
            due("another EYE ahead", shedOfNew("ec0;t018;"), 2);
            due("another EYE behind", shedOfNew("t018;ec0;"), -2000);
            due("the first of two", shedOfNew("b3;sa0;b8;"), -2003);
            due("the last", shed(x, many + "b8;"), -2093);
        });
        edge(TERMS, "(a number out of range", x -> {
            String[] texts = {"l00101;", "l01411;", "l41991;", "b1;", "b8;", "sb0;", "t000;", "t410;", "t995;"};
            for (String text : texts) due(text, shedOfNew("p0000;" + text), -2006);
        });
        edge(TERMS, "a strip told so by no SECOND that is LIKELY", x -> {
            due("one of two is LIKELY", shedOfNew("l01010;t010;"), 2);
            due("none of two", shedOfNew("l01020;t010;"), -2007);
            due("a BAND that is none", shed(x, "t018;"), -2000);
        });
        edge(TERMS, "99 TRIED): -2000 less the place", x -> {
            tryAll(x, 98);
            due("the 99th and one more", shed(x, "t400;t400;"), -2005);
            due("nothing came", x.count(2), 98);
            due("the 99th", shed(x, "b6;t400;"), 2);
            due("TRIED", x.count(2), 99);
            due("one more", shed(x, "b6;t400;"), -2003);
            due("another STATEMENT", shed(x, "b4;"), 1);
        });
        edge(TERMS, "Without FAULT all of it comes, with one nothing.", x -> {
            String before = stateOf(x);
            due("kind 2 at the end", shed(x, "l01100;b3;sh7;es6;p9998;t120;sa0;"), -2029);
            same("nothing came", stateOf(x), before);
            due("kind 1 at the end", shed(x, "l01100;b3;sh7;es6;p9998;t120;sa"), -1031);
            same("nothing came", stateOf(x), before);
            due("without", shed(x, "l01100;b3;sh7;es6;p9998;t120;"), 6);
            int[] counts = {7, 7, 1, 3, 7, 6, 99, 98, 0, 0};
            for (int what = 0; what < counts.length; what++) due("count(" + what + ")", x.count(what), counts[what]);
            due("KIND of STRIPS", x.kind(0, 0), 2);
            due("KIND of EYE", x.kind(1, 0), 3);
        });
    }

    private static void strips() {
        edge(TERMS, "the SECONDS of band i (0 ..; 240 at most)", x -> {
            due("239", after("sd8;").band(29, 3), 239);
            due("240", after("sd9;").band(29, 3), 240);
            due("240", after("sd1;").band(30, 3), 240);
            due("241", after("sd2;").band(30, 3), 240);
            due("2568", after("b7;sd9;").band(40, 6), 240);
            bandsAre("b7;sh9;", 40, 40, 68, 98, 143, 211, 240, 240);
            due("the first", x.band(10, 0), 10);
            due("ahead of the first", x.band(10, -1), -1);
        });
        edge(TERMS, "a ADDING: v and i times STEP.", x -> {
            bandsAre("b7;sa9;", 40, 40, 49, 58, 67, 76, 85, 94);
            bandsAre("b2;sa1;", 1, 1, 2);
        });
        edge(TERMS, "d DOUBLING under ADDING: v times 2, i times", x -> bandsAre("b7;sd1;", 3, 3, 6, 12, 24, 48, 96, 192));
        edge(TERMS, "STEP less 1 more on all bands but the first", x -> {
            bandsAre("b7;sd9;", 3, 3, 14, 20, 32, 56, 104, 200);
            bandsAre("b2;sd2;", 1, 1, 3);
        });
        edge(TERMS, "by each the one ahead (without what is more) and half of it, rounded up", x -> {
            bandsAre("b7;sh1;", 1, 1, 2, 3, 5, 8, 12, 18);
            bandsAre("b7;sh1;", 4, 4, 6, 9, 14, 21, 32, 48);
        });
        edge(TERMS, "STEP less 1 more as a DOUBLING one's", x -> bandsAre("b7;sh3;", 1, 1, 4, 5, 7, 10, 14, 20));
        edge(TERMS, "from the last band on (band 0 the longest)", x -> {
            bandsAre("b7;sb9;", 40, 94, 85, 76, 67, 58, 49, 40);
            bandsAre("b2;sb1;", 1, 2, 1);
        });
    }

    /** Two bands are as long only at 240, and these are never the nearest: "the first", "the last" of them can't be asked. */
    private static void eyes() {
        edge(TERMS, "that nearest to r, of several the shortest", x -> {
            tells("ee9;", 10, 1, 0, 11, 0, 12, 1, 13, 1, 17, 3, 18, 4, 40, 4);
            tells("sb2;", 10, 1, 4, 11, 4, 12, 3, 13, 3, 17, 1, 18, 0, 40, 0);
            tells("b2;sa9;", 40, 40, 0);
        });
        edge(TERMS, "as an EYE's with FIGURE SECONDS more than r", x -> {
            tells("ew0;", 10, 11, 0, 12, 1);
            tells("ew1;", 10, 10, 0, 11, 1);
            tells("ew9;", 10, 2, 0, 3, 1, 8, 3, 9, 4);
            tells("ew9;sa9;", 40, 35, 0, 36, 1, 40, 1);
        });
        edge(TERMS, "as a WET one's with FIGURE less 1, 0 at least", x -> {
            tells("ed0;", 10, 11, 0, 12, 1);
            tells("ed1;", 10, 11, 0, 12, 1);
            tells("ed2;", 10, 10, 0, 11, 1);
            tells("ed9;", 10, 3, 0, 4, 1);
        });
        edge(TERMS, "as an EYE's, but of several the longest", x -> {
            tells("es9;", 10, 1, 0, 10, 0, 11, 1, 12, 1, 13, 2, 17, 4, 40, 4);
            tells("sb2;es9;", 10, 1, 4, 10, 4, 11, 3, 12, 3, 16, 1, 17, 0);
        });
        edge(TERMS, "as a SLOW one's; if the nearest is more than FIGURE off, 8 (none)", x -> {
            tells("ec0;", 10, 9, 8, 10, 0, 11, 8, 18, 4, 19, 8);
            tells("ec1;", 10, 8, 8, 9, 0, 11, 1, 17, 4, 19, 4, 20, 8);
            tells("ec9;", 20, 10, 8, 11, 0, 37, 4, 38, 8);
            tells("es0;", 10, 1, 0, 40, 4);
        });
    }

    private static void trying() {
        edge(TERMS, "all SECONDS of which the EYE would have told another BAND are LIKELY 0 from then on", x -> {
            shed(x, "l13169;l15150;");
            due("tryIt(10, 2)", x.tryIt(10, 2), 1);
            likelyAre(x, 1, 13, 0);
            likelyAre(x, 14, 14, 9);
            likelyAre(x, 15, 40, 0);
        });
        edge(TERMS, "TRIED is 1 more", x -> {
            x.tryIt(10, 4);
            due("TRIED", x.count(2), 1);
            x.tryIt(30, 0);
            due("TRIED", x.count(2), 2);
            due("refused", x.tryIt(10, 0), -3);
            due("TRIED", x.count(2), 2);
        });
        edge(TERMS, "LEFT: SECONDS that are LIKELY more than 0", x -> {
            due("all", x.count(0), 40);
            due("LIKELY 9", after("l01409;").count(0), 40);
            due("none", withNoneLeft().count(0), 0);
            due("one", withLeft("", 40).count(0), 1);
            due("two", withLeft("", 1, 40).count(0), 2);
        });
        edge(TERMS, "WEIGHT of them: all LIKELY together", x -> {
            due("the greatest", after("l01409;").count(1), 360);
            due("none", withNoneLeft().count(1), 0);
            due("some", after("l01013;l40400;").count(1), 41);
        });
    }

    private static void partsAndBest() {
        edge(TERMS, "into how many BANDS it parts what is LEFT", x -> {
            due("all BANDS", after("b7;").parts(1), 7);
            due("one", x.parts(39), 1);
            due("two", x.parts(38), 2);
            due("one SECOND", withLeft("", 12).parts(10), 1);
            due("7 and none", after("b7;ec0;").parts(1), 8);
            due("none told", after("ec0;b2;").parts(40), 2);
            due("all told none", withLeft("ec0;", 1, 2).parts(10), 1);
        });
        edge(TERMS, "WORST: the most SECONDS left of one BAND", x -> {
            due("the last BAND", x.worst(1), 32);
            due("the first BAND", x.worst(38), 39);
            due("all", x.worst(39), 40);
            due("one each", withLeft("", 1, 3, 5).worst(1), 1);
            due("none told", after("ec0;").worst(1), 35);
            due("LIKELY is not asked", after("l12139;").worst(10), 23);
        });
        edge(TERMS, "the sum, over BANDS, of WEIGHT by how many are left of it, by all WEIGHT: a fraction", x -> {
            fraction("38: 39 and 1", x.mean(38, 0), x.mean(38, 1), 761, 20);
            fraction("39: all", x.mean(39, 0), x.mean(39, 1), 40, 1);
            shed(x, "l40409;");
            fraction("38: 39 and 9", x.mean(38, 0), x.mean(38, 1), 255, 8);
        });
        edge(TERMS, "BEST strip (v 1 .. 40)", x -> {
            for (int by = 0; by < 3; by++) {
                due("the first, by " + by, withLeft("b2;", 2, 3).best(by), 1);
                due("the first, the third next, by " + by, withLeft("b3;sa9;ec0;", 1, 3, 10, 12, 19).best(by), 1);
                due("the second, by " + by, withLeft("b2;", 3, 4).best(by), 2);
                due("the last, by " + by, withLeft("b2;ew9;", 32, 33).best(by), 40);
            }
        });
        edge(TERMS, "by WORST (0), by MEAN (1: the least), by PARTS (2: the most)", x -> {
            shed(x, "l01109;");
            due("by WORST", x.best(0), 16);
            due("by MEAN", x.best(1), 3);
            due("by PARTS", x.best(2), 1);
        });
        edge(TERMS, "of several the least v: v; that.", x -> {
            StripInFiveSteps two = withLeft("", 20, 30);
            for (int by = 0; by < 3; by++) due("13 .. 28 part them, by " + by, two.best(by), 13);
            StripInFiveSteps one = withLeft("", 20);
            for (int by = 0; by < 3; by++) due("all are alike, by " + by, one.best(by), 1);
        });
        edge(TERMS, "the one (0 .. 3) whose BEST by WORST is least, of several the first", x -> {
            due("ADDING, BACK as good", after("sb8;").bestKind(), 0);
            due("DOUBLING", after("b3;sa1;").bestKind(), 1);
            due("HALFWAY", x.bestKind(), 2);
            due("all are alike", withLeft("sb2;", 20).bestKind(), 0);
        });
    }

    private static void giveAndGoOn() {
        edge(TERMS, "GIVE: the SECOND (1 .. 40) with the least FAULTS on the mean", x -> {
            due("the first", withLeft("", 1).give(), 1);
            due("the last", withLeft("", 40).give(), 40);
            due("the first, the second next", after("l01400;l01013;l02022;").give(), 1);
            due("the last, the last but one next", after("l01400;l39392;l40403;").give(), 40);
            due("by LIKELY", after("l01400;l01011;l40402;").give(), 40);
            due("between", withLeft("", 10, 20, 40).give(), 20);
        });
        edge(TERMS, "(FAULT times how far off, by LIKELY), of several the least", x -> {
            due("from 20 on to 21", x.give(), 20);
            due("from 10 on to 30", withLeft("", 10, 30).give(), 10);
            due("FAULT 0", withLeft("p0500;", 10, 30).give(), 1);
        });
        edge(TERMS, "(BEST by WORST) and then GIVE costs less on the mean than GIVE now", x -> {
            due("it costs less", withLeft("p0104;", 2, 3).goOn(), 1);
            due("it costs as much", withLeft("p0204;", 2, 3).goOn(), 0);
            due("it costs more", withLeft("p0304;", 2, 3).goOn(), 0);
            due("nothing to gain for nothing", withLeft("p0099;", 20).goOn(), 0);
            due("FAULT 0", after("p0000;").goOn(), 0);
        });
        edge(TERMS, "PRICE and FAULTS by what would be told: 1, 0; how much it would cost: a fraction", x -> {
            StripInFiveSteps two = withLeft("p9999;", 2, 3);
            fraction("all parted", two.goOnCosts(0), two.goOnCosts(1), 99, 1);
            StripInFiveSteps alike = withLeft("p0001;", 1, 2);
            fraction("none parted", alike.goOnCosts(0), alike.goOnCosts(1), 1, 2);
            StripInFiveSteps free = after("p0000;");
            fraction("for nothing", free.goOnCosts(0), free.goOnCosts(1), 0, 1);
        });
    }

    /** With two bands a CAREFUL eye without FIGURE finds the two shortest that are LEFT and leaves the rest together. */
    private static void enoughStrips() {
        String byTwos = "b2;sa1;ec0;";
        edge(TERMS, "how many strips till one SECOND is LEFT (0 .. 12)", x -> {
            due("0", withLeft("", 20).enough(20), 0);
            due("1", withLeft("", 2, 3).enough(3), 1);
            StripInFiveSteps all = after(byTwos + "l26400;");
            for (int r = 1; r <= 25; r++) due("enough(" + r + ")", all.enough(r), r == 25 ? 12 : (r + 1) / 2);
        });
        edge(TERMS, "-9 not by 12", x -> {
            StripInFiveSteps more = after(byTwos + "l27400;");
            due("by 12", more.enough(24), 12);
            due("by 13", more.enough(25), -9);
            due("by 13", more.enough(26), -9);
        });
        edge(TERMS, "or one parts it no more", x -> {
            due("at once", withLeft("", 1, 2).enough(1), -9);
            StripInFiveSteps three = withLeft("", 1, 2, 40);
            due("behind one", three.enough(2), -9);
            due("the other", three.enough(40), 1);
        });
        edge(TERMS, "MOST of that for all r that are LEFT; -9 any of them -9", x -> {
            due("0", withLeft("", 20).most(), 0);
            due("12", after(byTwos + "l26400;").most(), 12);
            due("one by 13", after(byTwos + "l27400;").most(), -9);
            due("two alike", withLeft("", 1, 2, 40).most(), -9);
        });
        edge(TERMS, "the least n with 2, 3 .. (BANDS and 1 for CAREFUL ones) to the n no less than LEFT", x -> {
            String[] texts = {"b2;l02400;", "b2;l03400;", "b2;l05400;", "b2;l06400;", "b2;l33400;", "b2;l34400;",
                "b7;l08400;", "b7;l09400;", "b2;ec0;l04400;", "b2;ec0;l05400;", "b2;ec0;l28400;", "b2;ec0;l29400;",
                "b7;ec0;l09400;", "b7;ec0;l10400;", "b2;es0;l04400;"};
            int[] fewest = {0, 1, 2, 3, 5, 6, 1, 2, 1, 2, 3, 4, 1, 2, 2};
            for (int i = 0; i < texts.length; i++) due(texts[i], after(texts[i]).fewest(), fewest[i]);
        });
    }

    private static void rulesAndEyes() {
        edge(TERMS, "how many SECONDS would be left; the least, the greatest of them (-9 none)", x -> {
            due("the greatest of the first", withLeft("", 1).rule(1, 0, 2), 1);
            due("the least of the last", withLeft("", 40).rule(40, 0, 1), 40);
            int[][] rules = {{1, 0, 2, 1, 2}, {1, 4, 32, 9, 40}, {40, 0, 40, 1, 40}, {40, 1, 0, -9, -9}, {40, 8, 0, -9, -9}};
            for (int[] one : rules) {
                for (int what = 0; what < 3; what++) {
                    due("rule(" + one[0] + ", " + one[1] + ", " + what + ")", x.rule(one[0], one[1], what), one[2 + what]);
                }
            }
        });
        edge(TERMS, "for how many of what is LEFT they tell unlike BANDS; the first such SECOND; -9", x -> {
            StripInFiveSteps two = withLeft("", 11, 13);
            due("both", two.twoEyes(10, 0, 3, 0), 2);
            due("the first", two.twoEyes(10, 0, 3, 1), 11);
            due("none", two.twoEyes(20, 0, 3, 0), 0);
            due("none", two.twoEyes(20, 0, 3, 1), -9);
            due("an EYE and itself", x.twoEyes(10, 3, 3, 1), -9);
            due("the last", withLeft("ec0;", 40).twoEyes(1, 3, 4, 1), 40);
            due("FIGURE as it is", withLeft("ec1;", 9).twoEyes(10, 3, 4, 0), 0);
        });
        edge(TERMS, "KINDS of EYES (bits, FIGURE as it is) by which all is so", x -> {
            due("all but CAREFUL", withRow(after("ec0;"), 10, 9, 0).whose(0), 1 | 2 | 4 | 8);
            due("CAREFUL alone", withRow(after("ee0;"), 10, 9, 8).whose(0), 16);
            due("with FIGURE 2", withRow(after("ee2;"), 10, 10, 0).whose(0), 1 | 4 | 8 | 16);
            due("the second three not", withRow(x, 10, 10, 0, 10, 10, 1).whose(0), 0);
        });
        edge(TERMS, "FIGURES (bits 0 .. 9, KIND as it is)", x -> {
            due("0 alone", withRow(after("ec5;"), 10, 9, 8).whose(1), 1);
            due("9 alone", withRow(after("ec0;"), 20, 11, 0).whose(1), 1 << 9);
            due("all but 0", withRow(after("ec0;"), 10, 9, 0).whose(1), 1022);
            due("none", withRow(after("ec0;"), 20, 10, 0).whose(1), 0);
            due("0 and 1 alike for DRY", withRow(after("ed0;"), 10, 11, 0).whose(1), 3);
        });
    }

    private static void limitsAndCosts() {
        edge(TERMS, "LIMITS: the shortest and the longest SECOND LEFT; -9 none.", x -> {
            due("the shortest", x.limit(0), 1);
            due("the longest", x.limit(1), 40);
            StripInFiveSteps one = withLeft("", 7);
            due("the shortest of one", one.limit(0), 7);
            due("the longest of one", one.limit(1), 7);
            due("the longest of the first", withLeft("", 1).limit(1), 1);
            due("the shortest of the last", withLeft("", 40).limit(0), 40);
            due("the shortest of none", withNoneLeft().limit(0), -9);
            due("the longest of none", withNoneLeft().limit(1), -9);
        });
        edge(TERMS, "the SECOND at which WEIGHT up to it first is half of all or more; -9.", x -> {
            due("just half", withLeft("", 10, 20).limit(2), 10);
            due("less than half", after("l01400;l10101;l20202;").limit(2), 20);
            due("more than half", after("l01400;l10102;l20201;").limit(2), 10);
            due("half of an odd number", withLeft("", 10, 20, 30).limit(2), 20);
            due("the first", withLeft("", 1).limit(2), 1);
            due("the last", after("l40409;l01380;").limit(2), 40);
            due("none", withNoneLeft().limit(2), -9);
        });
        edge(TERMS, "COSTS of n strips (0 .. 20) and a sheet at v", x -> {
            fraction("0 strips", x.costs(0, 20, 0), x.costs(0, 20, 1), 40, 1);
            fraction("20 strips", x.costs(20, 20, 0), x.costs(20, 20, 1), 140, 1);
            due("-1 strips", x.costs(-1, 20, 0), LONGS + 4);
            due("21 strips", x.costs(21, 20, 0), LONGS + 6);
            fraction("the last sheet", x.costs(0, 40, 0), x.costs(0, 40, 1), 78, 1);
            StripInFiveSteps dear = after("p9999;l01400;l40409;");
            fraction("the most", dear.costs(20, 1, 0), dear.costs(20, 1, 1), 1980 + 39 * 99, 1);
        });
        edge(TERMS, "WORTH: the greatest PRICE (0 .. 99) by which one would GO ON; -9 none.", x -> {
            due("half a FAULT", withLeft("p5001;", 2, 3).worth(), 0);
            due("one FAULT", withLeft("p5002;", 2, 3).worth(), 0);
            due("more than one", withLeft("p5003;", 2, 3).worth(), 1);
            due("99 is as much", withLeft("p5018;", 1, 12).worth(), 98);
            due("100 is as much", withLeft("p5020;", 1, 11).worth(), 99);
            due("more than 100", withLeft("p5099;", 1, 40).worth(), 99);
            due("FAULT 0", withLeft("p5000;", 1, 40).worth(), -9);
            due("none parted", withLeft("p0099;", 1, 2).worth(), -9);
        });
    }

    private static void rows() {
        edge(TERMS, "A ROW of numbers (0 .. 99; 12 at most)", x -> {
            due("the least", x.row(0), 1);
            due("the greatest", x.row(99), 2);
            due("below the least", x.row(-1), -4);
            due("above the greatest", x.row(100), -6);
            for (int n = 3; n <= 12; n++) due("row", x.row(1), n);
            due("the 13th", x.row(1), -6);
            due("how many", x.count(8), 12);
        });
        edge(TERMS, "as strips TRIED from now (how many were TRIED aside)", x -> {
            tryAll(x, 99);
            withRow(x, 10, 4, 30, 0);
            due("stays()", x.stays(), 14);
            due("judge()", x.judge(), -9);
            due("TRIED", x.count(2), 99);
            due("LEFT", x.count(0), 40);
        });
        judged("no such SECOND", 0, 0);
        judged("no such SECOND", 41, 0);
        judged("no such SECOND, BAND", 40, 5);
        judged("no such SECOND, BAND", 40, 9);
        judged("no such SECOND, BAND", 40, 99);
        judged("none LEFT would be told so", 40, 1);
        judged("none LEFT would be told so", 40, 8);
        judged("one number alone", 40);
        edge(TERMS, "the first two that can not be", x -> {
            due("the first of several", withRow(new StripInFiveSteps(), 40, 0, 0, 0, 41, 0, 40).judge(), 1);
            due("by those ahead", withRow(new StripInFiveSteps(), 10, 2, 10, 2, 10, 1).judge(), 2);
            due("8, a CAREFUL eye", withRow(after("ec0;"), 1, 8, 1, 0).judge(), 1);
            due("the last BAND", withRow(new StripInFiveSteps(), 10, 4).judge(), -9);
            due("six that can be", withRow(x, 40, 0, 40, 0, 40, 0, 40, 0, 40, 0, 40, 0).judge(), -9);
        });
        edge(TERMS, "STAYS: how many are LEFT behind all ahead of that", x -> {
            due("no ROW", x.stays(), 40);
            due("all can be", withRow(new StripInFiveSteps(), 10, 4, 30, 0).stays(), 14);
            due("the first can not be", withRow(new StripInFiveSteps(), 10, 5, 10, 4).stays(), 40);
            due("the second can not be", withRow(new StripInFiveSteps(), 10, 4, 10, 0, 30, 0).stays(), 23);
            due("one number alone", withRow(new StripInFiveSteps(), 10, 4, 30).stays(), 23);
            due("none LEFT", withRow(withNoneLeft(), 10, 4).stays(), 0);
        });
    }

    /** The two can't be, wherever they stand among such as can. */
    private static void judged(String sentence, int... two) {
        edge(TERMS, sentence, x -> {
            for (int ahead = 0; ahead <= 5; ahead++) {
                for (int i = 0; i < ahead; i++) withRow(x, 40, 0);
                withRow(x, two);
                due("stays()", x.stays(), 40);
                due("judge() with " + ahead + " ahead", x.judge(), ahead);
            }
        });
    }

    private static void lotsOfSheds() {
        String byTwos = "b2;sa1;ec0;";
        edge(TERMS, "LOTS with a seed z: n sheds (1 .. 20)", x -> {
            StripInFiveSteps all = after(byTwos);
            due("one", all.lots(1, 7), 12);
            due("20", all.lots(20, 7), ofTwos(20, 7));
            due("none", all.lots(0, 7), -4);
            due("21", all.lots(21, 7), -6);
        });
        edge(TERMS, "(-9: 12; a SECOND that is not LEFT: 0)", x -> {
            due("r is 38, -9", after(byTwos).enough(38), -9);
            due("12", after(byTwos).lots(1, 7), 12);
            due("38 is not LEFT", after(byTwos + "l38380;").lots(1, 7), 0);
            due("38 alone is LEFT", withLeft("", 38).lots(1, 7), 0);
            due("12", shed(x, byTwos), 3);
            due("12", x.lots(1, 7), 12);
            x.make(38, 0);
            due("38 is LEFT no more", x.lots(1, 7), 0);
            due("none LEFT", withNoneLeft().lots(20, 7), 0);
        });
        edge(TERMS, "z becomes z times 1664525 and 1013904223 (an int)", x -> {
            StripInFiveSteps all = after(byTwos);
            for (int z : new int[] {0, 1, -1, 1000, 123456789, LOW, HIGH}) {
                for (int n : new int[] {1, 2, 3, 20}) due("lots(" + n + ", " + z + ")", all.lots(n, z), ofTwos(n, z));
            }
        });
        edge(TERMS, "(z without its sign's bit by 256, cut) modulo m", x -> {
            due("1000 becomes -1616538073: r is 7", after(byTwos).lots(1, 1000), 4);
            due("7 is not LEFT", after(byTwos + "l07070;").lots(1, 1000), 0);
            due("7 to 13 are LEFT", withLeft(byTwos, 7, 8, 9, 10, 11, 12, 13).lots(1, 1000), 1);
        });
    }

    /** What LOTS of a shed of forty, told by twos, are due: by arithmetic in longs, where no sign can get lost. */
    private static int ofTwos(int n, int seed) {
        long z = seed & 0xffffffffL;
        int together = 0;
        for (int i = 0; i < n; i++) {
            z = (z * 1664525L + 1013904223L) % 4294967296L;
            int r = (int) (z % 2147483648L / 256 % 40) + 1;
            together += r <= 24 ? (r + 1) / 2 : 12;
        }
        return together;
    }

    private static void images() {
        edge(TERMS, "THE IMAGE: all that there is, but it, the ROW, letters, REFUSALS", x -> {
            shed(x, "l01209;b3;sh4;es5;p0706;t300;");
            String then = stateOf(x);
            x.image();
            due("another SHED", shed(x, "l01400;l03050;l07091;b7;sb9;ec9;p1112;t408;"), 8);
            withRow(x, 1, 2);
            x.letter('b');
            x.likely(0);
            x.on();
            due("the ROW stays", x.count(8), 2);
            due("the letters stay", x.count(9), 1);
            due("REFUSALS stay", x.count(11), 1);
            x.judge();
            x.shed();
            same("all else is as then", stateOf(x), then);
            x.make(40, 7);
            x.on();
            same("the IMAGE stays", stateOf(x), then);
        });
        edge(TERMS, "ON from it all is as then.", x -> {
            due("worst(10)", x.worst(10), 23);
            x.image();
            shed(x, "b2;sa9;ew9;");
            due("another strip", x.worst(10), 35);
            x.on();
            due("worst(10)", x.worst(10), 23);
        });
        edge(TERMS, "Fractions are told in least terms; 0 as 0 by 1.", x -> {
            fraction("400 times 4 by 40", x.faults(0), x.faults(1), 40, 1);
            StripInFiveSteps three = after("l01400;l01013;l02026;");
            fraction("12 by 9", three.faults(0), three.faults(1), 4, 3);
            StripInFiveSteps one = withLeft("", 9);
            fraction("0", one.faults(0), one.faults(1), 0, 1);
            fraction("0 by WEIGHT 0", withNoneLeft().mean(1, 0), withNoneLeft().mean(1, 1), 0, 1);
            StripInFiveSteps free = after("p0000;l01409;");
            fraction("0 by WEIGHT 360", free.costs(20, 40, 0), free.costs(20, 40, 1), 0, 1);
        });
    }

    private static void refusalsOfAll() {
        edge(TERMS, "the first that fits in the order in which it tells them", x -> {
            StripInFiveSteps none = withRow(withNoneLeft(), 1);
            due("make", none.make(0, -1), -1);
            due("make", none.make(41, 10), -1);
            due("set", none.set(5, -1), -2);
            due("set", none.set(-1, 100), -2);
            due("tryIt", none.tryIt(0, 0), -1);
            due("tryIt", none.tryIt(1, 9), -1);
            due("mean", none.mean(0, 2), LONGS + 1);
            due("mean", none.mean(1, 2), LONGS + 2);
            due("best", none.best(3), -2);
            due("bestOf", none.bestOf(3, 0), LONGS + 2);
            due("bestOf", none.bestOf(0, 2), LONGS + 2);
            due("faults", none.faults(2), LONGS + 2);
            due("goOnCosts", none.goOnCosts(2), LONGS + 2);
            due("enough", none.enough(0), -1);
            due("rule", none.rule(0, 0, 3), -1);
            due("rule", none.rule(1, 5, 3), -1);
            due("twoEyes", none.twoEyes(0, 5, 5, 2), -1);
            due("whose", none.whose(2), -2);
            due("costs", none.costs(-1, 0, 2), LONGS + 4);
            due("costs", none.costs(21, 0, 2), LONGS + 6);
            due("costs", none.costs(20, 0, 2), LONGS + 1);
            due("costs", none.costs(20, 1, 2), LONGS + 2);
            due("costs", none.costs(20, 1, 1), LONGS + 3);
            tryAll(x, 99);
            due("tryIt", x.tryIt(40, 5), -1);
            due("tryIt", x.tryIt(40, 1), -3);
            due("tryIt", x.tryIt(40, 0), -6);
        });
        edge(TERMS, "nothing changes but how many there were", x -> {
            shed(x, "l01409;l30307;b3;sh4;es5;p0706;t300;");
            withRow(x, 30, 0, 31, 0);
            x.letter('b');
            String before = stateOf(x);
            refusedOnce(x);
            same("refused", stateOf(x), before);
            int[] refused = {14, 18, 3, 6, 0, 6};
            for (int i = 0; i < refused.length; i++) due("count(" + (11 + i) + ")", x.count(11 + i), refused[i]);
        });
        edge(TERMS, "-6 ROOM: a number above the greatest, no room.", x -> {
            for (int n = 1; n <= 12; n++) x.row(1);
            due("a number above", x.row(100), -6);
            due("no room", x.row(1), -6);
            due("how many there were", x.count(16), 2);
            due("and no others", x.count(14), 0);
        });
        edge(TERMS, "Of longs 4000000000000000000 less them (-1 as 4000000000000000001)", x -> {
            due("-1", x.mean(0, 0), 4000000000000000001L);
            due("-2", x.mean(1, 2), 4000000000000000002L);
            due("-3", withNoneLeft().faults(0), 4000000000000000003L);
            due("-4", x.costs(-1, 1, 0), 4000000000000000004L);
            due("-6", x.costs(21, 1, 0), 4000000000000000006L);
            int[] refused = {1, 1, 0, 1, 0, 1};
            for (int i = 0; i < refused.length; i++) due("count(" + (11 + i) + ")", x.count(11 + i), refused[i]);
        });
    }

    /** Each method's refusals in a state with something LEFT, three BANDS, a ROW of four. */
    private static void refusedOnce(StripInFiveSteps x) {
        x.letter(-1); x.letter(256);
        x.likely(0);
        x.make(41, 1); x.make(1, -1); x.make(1, 10);
        x.set(5, 1); x.set(0, 1); x.set(0, 8);
        x.kind(2, 0); x.kind(0, 4); x.kind(1, 5); x.kind(1, -1);
        x.band(0, 0); x.band(1, 3);
        x.told(1, 0);
        x.tryIt(0, 0); x.tryIt(30, 3); x.tryIt(30, 2);
        x.parts(0); x.worst(0);
        x.mean(0, 0); x.mean(1, 2);
        x.best(3); x.bestOf(0, 2); x.bestOf(3, 0); x.faults(2); x.goOnCosts(2);
        x.enough(0);
        x.rule(0, 0, 0); x.rule(1, 0, 3);
        x.twoEyes(41, 0, 0, 0); x.twoEyes(1, 5, 0, 0); x.twoEyes(1, 0, -1, 0); x.twoEyes(1, 0, 0, 2);
        x.whose(2); x.whose(0);
        x.limit(3);
        x.costs(-1, 1, 0); x.costs(21, 1, 0); x.costs(0, 41, 0); x.costs(0, 1, 2);
        x.row(-1); x.row(100);
        x.lots(0, 1); x.lots(21, 1);
        x.on();
    }

    private static void promisesOfState() {
        edge(1, "All LIKELY 1, nothing TRIED.", x -> {
            likelyAre(x, 1, 40, 1);
            int[] counts = {40, 40, 0, 5, 2, 0, 5, 4, 0, 0, -9, 0, 0, 0, 0, 0, 0};
            for (int what = 0; what < counts.length; what++) due("count(" + what + ")", x.count(what), counts[what]);
            due("KIND of STRIPS", x.kind(0, 0), 0);
            due("KIND of EYE", x.kind(1, 0), 0);
            due("THE IMAGE", x.on(), -3);
        });
        edge(2, "A letter (0 .. 255) comes: how many there are. -4; -6 (255; 96, too).", x -> {
            due("letter(0)", x.letter(0), 1);
            due("letter(255)", x.letter(255), 2);
            due("letter(-1)", x.letter(-1), -4);
            due("letter(low)", x.letter(LOW), -4);
            due("letter(256)", x.letter(256), -6);
            due("letter(high)", x.letter(HIGH), -6);
            for (int n = 3; n <= 96; n++) due("letter(59)", x.letter(59), n);
            due("no room", x.letter(59), -6);
            due("-4 ahead of no room", x.letter(-1), -4);
            due("how many", x.count(9), 96);
        });
        edge(3, "The letters become a SHED, and are no more (with a FAULT neither)", x -> {
            due("without FAULT", shed(x, "b6;"), 1);
            due("no more", x.count(9), 0);
            due("kind 1", shed(x, "b6"), -1002);
            due("no more", x.count(9), 0);
            due("kind 2", shed(x, "b9;"), -2000);
            due("no more", x.count(9), 0);
            due("room again", x.letter('b'), 1);
        });
        edge(3, "how many STATEMENTS; the FAULT (nothing is counted)", x -> {
            due("one", shed(x, "b6;"), 1);
            due("32", shed(x, "b5;".repeat(32)), 32);
            x.shed();
            shed(x, "b9;");
            shed(x, "t995;");
            for (int what = 11; what <= 16; what++) due("count(" + what + ")", x.count(what), 0);
        });
        edge(4, "How LIKELY a SECOND is. -1.", x -> {
            shed(x, "l01019;l40400;");
            due("likely(1)", x.likely(1), 9);
            due("likely(40)", x.likely(40), 0);
            for (int r : NO_SECONDS) due("likely(" + r + ")", x.likely(r), -1);
        });
        edge(5, "A SECOND becomes LIKELY v: what it was. -1; -4; -6 9.", x -> {
            due("make(1, 0)", x.make(1, 0), 1);
            due("make(1, 9)", x.make(1, 9), 0);
            due("make(1, 9)", x.make(1, 9), 9);
            due("make(40, 2)", x.make(40, 2), 1);
            for (int r : NO_SECONDS) due("make(" + r + ", 1)", x.make(r, 1), -1);
            for (int v : new int[] {-1, LOW}) due("make(2, " + v + ")", x.make(2, v), -4);
            for (int v : new int[] {10, HIGH}) due("make(2, " + v + ")", x.make(2, v), -6);
            likelyAre(x, 2, 39, 1);
        });
        edge(6, "becomes v: what it was. -2; -4 (2; 1; 0; 0; 0); -6 (7; 9; 9; 99; 99).", x -> {
            int[][] numbers = {{5, 2, 7}, {2, 1, 9}, {0, 0, 9}, {5, 0, 99}, {4, 0, 99}};
            for (int what = 0; what < 5; what++) {
                due("the greatest", x.set(what, numbers[what][2]), numbers[what][0]);
                due("above", x.set(what, numbers[what][2] + 1), -6);
                due("far above", x.set(what, HIGH), -6);
                due("the least", x.set(what, numbers[what][1]), numbers[what][2]);
                due("below", x.set(what, numbers[what][1] - 1), -4);
                due("far below", x.set(what, LOW), -4);
                due("it stays", x.count(3 + what), numbers[what][1]);
            }
            for (int what : new int[] {-1, 5, LOW, HIGH}) due("set(" + what + ", 5)", x.set(what, 5), -2);
        });
        edge(6, "BANDS (what 0), STEP (1), FIGURE (2), PRICE (3), FAULT (4) becomes v", x -> {
            String[] texts = {"b5;", "sa9;", "b2;", "ew5;", "ew4;", "sa1;", "b7;", "sd1;", "ew9;", "ed0;", "es0;", "ec0;",
                "b5;sa2;ee0;"};
            int[] worst = {23, 14, 26, 31, 30, 34, 29, 15, 19, 15, 15, 37, 23};
            for (int i = 0; i < texts.length; i++) {
                shed(x, texts[i]);
                due("a strip parts by what is so now, " + texts[i], x.worst(10), worst[i]);
            }
            String[] twoAtOnce = {"ew1;", "ed0;", "ew1;sa3;", "ew2;sa2;", "ee0;b4;sa4;", "b5;sa3;"};
            int[] worstOf20 = {20, 21, 20, 19, 22, 21};
            for (int i = 0; i < twoAtOnce.length; i++) {
                shed(x, twoAtOnce[i]);
                due("one more, another less, " + twoAtOnce[i], x.worst(20), worstOf20[i]);
            }
            x.set(1, 9);
            fraction("STEP 9", x.mean(10, 0), x.mean(10, 1), 211, 20);
            x.set(1, 1);
            fraction("STEP 1", x.mean(10, 0), x.mean(10, 1), 104, 5);
        });
        edge(7, "(what 0: 0 a, 1 d, 2 h, 3 b)", x -> {
            int[] fourth = {16, 81, 36, 12};
            for (int k = 0; k < 4; k++) {
                due("kind(0, " + k + ")", x.kind(0, k), Math.max(0, k - 1));
                due("band(10, 3)", x.band(10, 3), fourth[k]);
            }
            due("what it was", x.kind(0, 0), 3);
        });
        edge(7, "(1: 0 e, 1 w, 2 d, 3 s, 4 c)", x -> {
            x.set(2, 4);
            int[] ofEight = {0, 1, 0, 0, 0};
            int[] ofEleven = {0, 2, 2, 1, 1};
            int[] ofForty = {4, 4, 4, 4, 8};
            for (int k = 0; k < 5; k++) {
                due("kind(1, " + k + ")", x.kind(1, k), Math.max(0, k - 1));
                due("told(10, 8)", x.told(10, 8), ofEight[k]);
                due("told(10, 11)", x.told(10, 11), ofEleven[k]);
                due("told(10, 40)", x.told(10, 40), ofForty[k]);
            }
            due("what it was", x.kind(1, 0), 4);
        });
        edge(7, "becomes another one: what it was. -2 either.", x -> {
            int[][] others = {{-1, 0}, {2, 0}, {LOW, 0}, {HIGH, 0}, {0, -1}, {0, 4}, {0, HIGH}, {1, -1}, {1, 5}, {1, LOW}};
            for (int[] one : others) due("kind(" + one[0] + ", " + one[1] + ")", x.kind(one[0], one[1]), -2);
            due("KIND of STRIPS", x.kind(0, 3), 0);
            due("KIND of EYE", x.kind(1, 4), 0);
            due("the same one", x.kind(0, 3), 3);
        });
        edge(8, "SECONDS of band i of a strip from v. -1 either.", x -> {
            due("the first", x.band(1, 0), 1);
            due("the last", x.band(40, 4), 48);
            for (int v : NO_SECONDS) due("band(" + v + ", 0)", x.band(v, 0), -1);
            for (int i : new int[] {-1, 5, 7, 8, LOW, HIGH}) due("band(1, " + i + ")", x.band(1, i), -1);
            x.set(0, 2);
            due("the last of two", x.band(1, 1), 3);
            due("behind two", x.band(1, 2), -1);
        });
        edge(9, "TOLD. -1 either.", x -> {
            due("told(1, 1)", x.told(1, 1), 0);
            due("told(40, 40)", x.told(40, 40), 0);
            due("told(1, 40)", x.told(1, 40), 4);
            due("not LEFT is told too", withNoneLeft().told(1, 40), 4);
            for (int second : NO_SECONDS) {
                due("told(" + second + ", 1)", x.told(second, 1), -1);
                due("told(1, " + second + ")", x.told(1, second), -1);
            }
        });
    }

    private static void promisesOfStrips() {
        edge(10, "BAND k (8, too) was told: how many are LEFT", x -> {
            shed(x, "ec0;");
            due("8", x.tryIt(1, 8), 35);
            due("8 again", x.tryIt(2, 8), 30);
            due("a BAND", x.tryIt(40, 0), 1);
            due("8, no CAREFUL eye", new StripInFiveSteps().tryIt(1, 8), -3);
        });
        edge(10, "-1 either; -3 none that is LEFT would be told so; -6 99 were TRIED.", x -> {
            for (int v : NO_SECONDS) due("tryIt(" + v + ", 0)", x.tryIt(v, 0), -1);
            for (int k : new int[] {-1, 5, 6, 7, 9, LOW, HIGH}) due("tryIt(1, " + k + ")", x.tryIt(1, k), -1);
            due("told of none", x.tryIt(40, 4), -3);
            due("none LEFT", withNoneLeft().tryIt(1, 0), -3);
            due("told of such as are not LEFT", after("l01020;").tryIt(1, 0), -3);
            due("nothing TRIED", x.count(2), 0);
            tryAll(x, 99);
            due("99 were TRIED", x.tryIt(10, 4), -6);
            due("LEFT", x.count(0), 40);
        });
        edge(11, "PARTS. -1.", x -> {
            due("the first", x.parts(1), 5);
            due("the last", x.parts(40), 1);
            due("none LEFT", withNoneLeft().parts(1), 0);
            for (int v : NO_SECONDS) due("parts(" + v + ")", x.parts(v), -1);
        });
        edge(12, "WORST (0 with none LEFT). -1.", x -> {
            due("the first", x.worst(1), 32);
            due("the last", x.worst(40), 40);
            due("none LEFT", withNoneLeft().worst(1), 0);
            for (int v : NO_SECONDS) due("worst(" + v + ")", x.worst(v), -1);
        });
        edge(13, "part 0 above, 1 below the line (0 by 1 none LEFT). Refused as told: -1; -2.", x -> {
            fraction("mean(40)", x.mean(40, 0), x.mean(40, 1), 40, 1);
            fraction("mean(1)", x.mean(1, 0), x.mean(1, 1), 26, 1);
            fraction("none LEFT", withNoneLeft().mean(1, 0), withNoneLeft().mean(1, 1), 0, 1);
            for (int v : NO_SECONDS) due("mean(" + v + ", 0)", x.mean(v, 0), LONGS + 1);
            for (int part : NO_PARTS) due("mean(1, " + part + ")", x.mean(1, part), LONGS + 2);
            due("-1 ahead of -2", x.mean(41, 2), LONGS + 1);
            due("-2 with none LEFT", withNoneLeft().mean(1, 2), LONGS + 2);
        });
        edge(14, "BEST strip: v. -2; -3 none LEFT.", x -> {
            int[] best = {16, 16, 1};
            for (int by = 0; by < 3; by++) {
                due("best(" + by + ")", x.best(by), best[by]);
                due("none LEFT", withNoneLeft().best(by), -3);
            }
            for (int by : new int[] {-1, 3, LOW, HIGH}) {
                due("best(" + by + ")", x.best(by), -2);
                due("-2 ahead of -3", withNoneLeft().best(by), -2);
            }
        });
        edge(15, "BEST strip: that (WORST, PARTS by 1).", x -> {
            fraction("WORST", x.bestOf(0, 0), x.bestOf(0, 1), 17, 1);
            fraction("MEAN", x.bestOf(1, 0), x.bestOf(1, 1), 59, 4);
            fraction("PARTS", x.bestOf(2, 0), x.bestOf(2, 1), 5, 1);
        });
        edge(15, "Refused as told: -2 either; -3 none LEFT.", x -> {
            for (int by : new int[] {-1, 3, LOW, HIGH}) due("bestOf(" + by + ", 0)", x.bestOf(by, 0), LONGS + 2);
            for (int part : NO_PARTS) due("bestOf(0, " + part + ")", x.bestOf(0, part), LONGS + 2);
            due("-2 ahead of -3", withNoneLeft().bestOf(3, 0), LONGS + 2);
            due("-2 ahead of -3", withNoneLeft().bestOf(1, 2), LONGS + 2);
            for (int by = 0; by < 3; by++) {
                due("none LEFT", withNoneLeft().bestOf(by, 0), LONGS + 3);
                due("none LEFT", withNoneLeft().bestOf(by, 1), LONGS + 3);
            }
        });
        edge(16, "KINDS of STRIPS: the one. -3 none LEFT.", x -> {
            due("HALFWAY", x.bestKind(), 2);
            due("the KIND stays", x.kind(0, 1), 0);
            due("whichever it is", x.bestKind(), 2);
            due("none LEFT", withNoneLeft().bestKind(), -3);
        });
    }

    private static void promisesOfSheets() {
        edge(17, "GIVE. -3 none LEFT.", x -> {
            due("give()", x.give(), 20);
            due("one LEFT", withLeft("", 40).give(), 40);
            due("none LEFT", withNoneLeft().give(), -3);
        });
        edge(18, "GIVE: FAULTS. Refused as told: -2; -3 none LEFT.", x -> {
            fraction("faults", x.faults(0), x.faults(1), 40, 1);
            StripInFiveSteps one = withLeft("", 40);
            fraction("one LEFT", one.faults(0), one.faults(1), 0, 1);
            for (int part : NO_PARTS) {
                due("faults(" + part + ")", x.faults(part), LONGS + 2);
                due("-2 ahead of -3", withNoneLeft().faults(part), LONGS + 2);
            }
            due("none LEFT", withNoneLeft().faults(0), LONGS + 3);
            due("none LEFT", withNoneLeft().faults(1), LONGS + 3);
        });
        edge(19, "GO ON: 1, 0. -3 none LEFT.", x -> {
            due("PRICE 5", x.goOn(), 1);
            x.set(3, 25);
            due("PRICE 25", x.goOn(), 1);
            x.set(3, 26);
            due("PRICE 26", x.goOn(), 0);
            due("one LEFT", withLeft("p0099;", 40).goOn(), 0);
            due("none LEFT", withNoneLeft().goOn(), -3);
        });
        edge(20, "what it would cost. Refused as told: -2; -3 none LEFT.", x -> {
            fraction("goOnCosts", x.goOnCosts(0), x.goOnCosts(1), 197, 10);
            StripInFiveSteps one = withLeft("", 40);
            fraction("one LEFT", one.goOnCosts(0), one.goOnCosts(1), 5, 1);
            for (int part : NO_PARTS) {
                due("goOnCosts(" + part + ")", x.goOnCosts(part), LONGS + 2);
                due("-2 ahead of -3", withNoneLeft().goOnCosts(part), LONGS + 2);
            }
            due("none LEFT", withNoneLeft().goOnCosts(0), LONGS + 3);
            due("none LEFT", withNoneLeft().goOnCosts(1), LONGS + 3);
        });
    }

    private static void promisesOfPlans() {
        edge(21, "ENOUGH; -9. -1; -3 it is not LEFT.", x -> {
            StripInFiveSteps two = withLeft("", 2, 3);
            due("enough(2)", two.enough(2), 1);
            due("not LEFT", two.enough(1), -3);
            due("not LEFT", two.enough(40), -3);
            due("-9", withLeft("", 1, 2).enough(2), -9);
            for (int r : NO_SECONDS) {
                due("enough(" + r + ")", two.enough(r), -1);
                due("-1 with none LEFT", withNoneLeft().enough(r), -1);
            }
            due("none LEFT", withNoneLeft().enough(1), -3);
            due("nothing is TRIED", two.count(2), 0);
            due("LEFT", two.count(0), 2);
        });
        edge(22, "ENOUGH: MOST; -9. -3 none LEFT.", x -> {
            due("most()", withLeft("", 2, 3).most(), 1);
            due("-9", x.most(), -9);
            due("only of what is LEFT", shed(x, "t010;"), 1);
            due("1, 2", x.most(), -9);
            due("2, 3", shed(x, "l01010;l03031;"), 2);
            due("those that were -9 are not LEFT", x.most(), 1);
            due("none LEFT", withNoneLeft().most(), -3);
            due("nothing is TRIED", x.count(2), 1);
        });
        edge(23, "FEWEST. -3 none LEFT.", x -> {
            due("40 by 5", x.fewest(), 3);
            due("one LEFT", withLeft("", 40).fewest(), 0);
            due("none LEFT", withNoneLeft().fewest(), -3);
        });
        edge(24, "how many (what 0), the least (1; -9), the greatest (2; -9). -1 either; -2.", x -> {
            int[] last = {23, 18, 40};
            int[] none = {0, -9, -9};
            for (int what = 0; what < 3; what++) {
                due("the last BAND", x.rule(10, 4, what), last[what]);
                due("8", x.rule(10, 8, what), none[what]);
                due("none LEFT", withNoneLeft().rule(10, 4, what), none[what]);
                for (int v : NO_SECONDS) due("rule(" + v + ", 0)", x.rule(v, 0, what), -1);
                for (int k : new int[] {-1, 5, 7, 9, LOW, HIGH}) due("rule(1, " + k + ")", x.rule(1, k, what), -1);
            }
            for (int what : new int[] {-1, 3, LOW, HIGH}) {
                due("rule(1, 0, " + what + ")", x.rule(1, 0, what), -2);
                due("-1 ahead of -2", x.rule(0, 0, what), -1);
                due("-1 ahead of -2", x.rule(1, 5, what), -1);
            }
            due("nothing is TRIED", x.count(2), 0);
        });
        edge(25, "how many (what 0), the first (1; -9). -1; -2 either KIND, what.", x -> {
            due("how many", x.twoEyes(10, 0, 3, 0), 4);
            due("the first", x.twoEyes(10, 0, 3, 1), 11);
            due("the last KIND", x.twoEyes(10, 4, 3, 0), 35);
            due("none", x.twoEyes(10, 0, 0, 0), 0);
            due("none", x.twoEyes(10, 0, 0, 1), -9);
            due("none LEFT", withNoneLeft().twoEyes(10, 0, 3, 0), 0);
            due("none LEFT", withNoneLeft().twoEyes(10, 0, 3, 1), -9);
            for (int v : NO_SECONDS) due("-1 ahead of -2", x.twoEyes(v, 5, -1, 2), -1);
            for (int k : new int[] {-1, 5, LOW, HIGH}) {
                due("KIND a " + k, x.twoEyes(1, k, 0, 0), -2);
                due("KIND b " + k, x.twoEyes(1, 0, k, 0), -2);
            }
            for (int what : new int[] {-1, 2, LOW, HIGH}) due("what " + what, x.twoEyes(1, 0, 3, what), -2);
        });
    }

    private static void promisesOfRows() {
        edge(26, "WHOSE by the ROW (it stays): KINDS (what 0, bits), FIGURES (1, bits).", x -> {
            due("no ROW", x.whose(0), 31);
            due("no ROW", x.whose(1), 1023);
            withRow(x, 10, 11, 0);
            due("KINDS", x.whose(0), 7);
            due("FIGURES", x.whose(1), 1023);
            due("it stays", x.count(8), 3);
            due("KINDS again", x.whose(0), 7);
            due("not LEFT is told too", withRow(withNoneLeft(), 10, 11, 0).whose(0), 7);
        });
        edge(26, "-2; -3 the ROW has not threes, a SECOND below 1 or above 40, a BAND above 8.", x -> {
            for (int what : new int[] {-1, 2, LOW, HIGH}) {
                due("whose(" + what + ")", x.whose(what), -2);
                due("-2 ahead of -3", withRow(new StripInFiveSteps(), 1).whose(what), -2);
            }
            int[][] rows = {{1}, {1, 1}, {1, 1, 0, 1}, {1, 1, 0, 1, 1}, {0, 1, 0}, {41, 1, 0}, {1, 0, 0}, {1, 41, 0},
                {1, 1, 9}, {1, 1, 99}, {1, 1, 0, 1, 1, 0, 1, 1, 0, 0, 1, 0}, {1, 1, 1, 41, 1, 0}};
            for (int[] row : rows) {
                StripInFiveSteps other = withRow(new StripInFiveSteps(), row);
                for (int what = 0; what < 2; what++) due("whose(" + what + ")", other.whose(what), -3);
            }
            int[][] others = {{1, 1, 0}, {40, 40, 0}, {1, 1, 8}, {1, 1, 7}, {1, 1, 5}};
            int[] whose = {31, 31, 0, 0, 0};
            for (int i = 0; i < others.length; i++) {
                due("whose(0)", withRow(new StripInFiveSteps(), others[i]).whose(0), whose[i]);
            }
            due("four threes", withRow(x, 1, 1, 0, 40, 40, 0, 1, 40, 4, 40, 1, 0).whose(0), 15);
        });
        edge(27, "the shortest (what 0), the longest (1), MIDDLE (2); -9. -2.", x -> {
            int[] limits = {1, 40, 20};
            for (int what = 0; what < 3; what++) {
                due("limit(" + what + ")", x.limit(what), limits[what]);
                due("none LEFT", withNoneLeft().limit(what), -9);
            }
            for (int what : new int[] {-1, 3, LOW, HIGH}) {
                due("limit(" + what + ")", x.limit(what), -2);
                due("-2 with none LEFT", withNoneLeft().limit(what), -2);
            }
            StripInFiveSteps none = withNoneLeft();
            none.limit(0);
            for (int what = 11; what <= 16; what++) due("-9 is no REFUSAL", none.count(what), 0);
        });
        edge(28, "COSTS. Refused as told: -4; -6 20; -1; -2; -3 none LEFT.", x -> {
            fraction("20 strips", x.costs(20, 1, 0), x.costs(20, 1, 1), 178, 1);
            fraction("0 strips", x.costs(0, 40, 0), x.costs(0, 40, 1), 78, 1);
            for (int n : new int[] {-1, LOW}) due("costs(" + n + ")", x.costs(n, 0, 2), LONGS + 4);
            for (int n : new int[] {21, HIGH}) due("costs(" + n + ")", x.costs(n, 0, 2), LONGS + 6);
            for (int v : NO_SECONDS) due("costs(0, " + v + ")", x.costs(0, v, 2), LONGS + 1);
            for (int part : NO_PARTS) due("-2 ahead of -3", withNoneLeft().costs(20, 1, part), LONGS + 2);
            for (int part = 0; part < 2; part++) due("none LEFT", withNoneLeft().costs(0, 40, part), LONGS + 3);
        });
        edge(29, "WORTH; -9. -3 none LEFT.", x -> {
            due("worth()", x.worth(), 25);
            x.set(3, 99);
            due("whichever PRICE", x.worth(), 25);
            due("PRICE stays", x.count(6), 99);
            due("-9", withLeft("", 40).worth(), -9);
            due("none LEFT", withNoneLeft().worth(), -3);
        });
        edge(30, "A number more of the ROW (0 .. 99): how many. -4; -6 (99; 12, too).", x -> {
            for (int n = 1; n <= 12; n++) {
                for (int v : new int[] {-1, LOW}) due("row(" + v + ")", x.row(v), -4);
                for (int v : new int[] {100, HIGH}) due("row(" + v + ")", x.row(v), -6);
                due("row", x.row(n % 2 == 0 ? 0 : 99), n);
            }
            due("no room", x.row(0), -6);
            due("-4 ahead of no room", x.row(-1), -4);
            due("how many", x.count(8), 12);
        });
        edge(31, "STAYS by the ROW (it stays).", x -> {
            withRow(x, 10, 4, 30, 0);
            due("stays()", x.stays(), 14);
            due("it stays", x.count(8), 4);
            due("stays() again", x.stays(), 14);
            due("nothing is TRIED", x.count(2), 0);
            due("LEFT", x.count(0), 40);
        });
        edge(32, "JUDGED; -9 (whichever it answers, the ROW has none then).", x -> {
            withRow(x, 10, 4, 30, 0);
            due("-9", x.judge(), -9);
            due("the ROW has none", x.count(8), 0);
            withRow(x, 10, 4, 30);
            due("the second two", x.judge(), 1);
            due("the ROW has none", x.count(8), 0);
            due("no ROW", x.judge(), -9);
            due("nothing is TRIED", x.count(2), 0);
            due("LEFT", x.count(0), 40);
            due("room again", x.row(1), 1);
            for (int what = 11; what <= 16; what++) due("-9 is no REFUSAL", x.count(what), 0);
        });
    }

    private static void promisesOfTheRest() {
        edge(33, "LOTS. -4; -6 20.", x -> {
            shed(x, "b2;sa1;ec0;");
            due("1", x.lots(1, 0), ofTwos(1, 0));
            due("20", x.lots(20, 0), ofTwos(20, 0));
            for (int n : new int[] {0, -1, LOW}) due("lots(" + n + ", 0)", x.lots(n, 0), -4);
            for (int n : new int[] {21, HIGH}) due("lots(" + n + ", 0)", x.lots(n, 0), -6);
            due("-4 with none LEFT", withNoneLeft().lots(0, 0), -4);
            due("nothing is TRIED", x.count(2), 0);
            due("the same again", x.lots(20, 0), ofTwos(20, 0));
        });
        edge(34, "THE IMAGE is taken: how many are LEFT.", x -> {
            due("all", x.image(), 40);
            x.make(1, 0);
            due("a later one", x.image(), 39);
            x.make(1, 5);
            due("from the later one", x.on(), 39);
            due("none LEFT", withNoneLeft().image(), 0);
        });
        edge(35, "ON from it: how many are LEFT. -3 there is none.", x -> {
            due("there is none", x.on(), -3);
            due("refused", x.count(13), 1);
            shed(x, "l01400;");
            due("none LEFT", x.image(), 0);
            x.make(40, 1);
            due("none LEFT", x.on(), 0);
            due("likely(40)", x.likely(40), 0);
            due("there is one still", x.on(), 0);
        });
        edge(36, "11 .. 16 REFUSALS -1 .. -6. -9 for another what.", x -> {
            x.likely(0);
            for (int n = 0; n < 2; n++) x.set(5, 0);
            for (int n = 0; n < 3; n++) x.on();
            for (int n = 0; n < 4; n++) x.row(-1);
            for (int n = 0; n < 6; n++) x.row(100);
            int[] refused = {1, 2, 3, 4, 0, 6};
            for (int i = 0; i < refused.length; i++) due("count(" + (11 + i) + ")", x.count(11 + i), refused[i]);
            for (int what : new int[] {-1, 10, 17, 18, LOW, HIGH}) due("count(" + what + ")", x.count(what), -9);
            for (int i = 0; i < refused.length; i++) due("-9 is no REFUSAL", x.count(11 + i), refused[i]);
        });
        edge(36, "0 LEFT, 1 WEIGHT, 2 TRIED, 3 BANDS, 4 STEP, 5 FIGURE, 6 PRICE, 7 FAULT, 8 in the ROW, 9 letters", x -> {
            shed(x, "l01029;b3;sa4;ee6;p0708;t400;");
            withRow(x, 0, 0, 0);
            for (int n = 0; n < 4; n++) x.letter(';');
            int[] counts = {40, 56, 1, 3, 4, 6, 7, 8, 3, 4};
            for (int what = 0; what < counts.length; what++) due("count(" + what + ")", x.count(what), counts[what]);
        });
    }
}
