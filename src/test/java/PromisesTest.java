/** Each promise of the document by itself: ordinary inputs, the edges that it names, wrong inputs. */
public final class PromisesTest {
    private static final long LONGS = 4000000000000000000L;
    private static final int LOW = Integer.MIN_VALUE;
    private static final int HIGH = Integer.MAX_VALUE;

    private static int wrong = 0;
    private static int checks = 0;
    private static int promise = 0;

    public static void main(String[] args) {
        newObject(); letters(); sheds(); shedFaults(); shedsBehindSheds(); likely(); make(); set(); kind();
        band(); told(); tryIt(); parts(); worst(); mean(); best(); bestOf(); bestKind(); give(); faults();
        goOn(); goOnCosts(); enough(); enoughToTwelve(); most(); fewest(); rule(); twoEyes(); whose();
        limit(); costs(); worth(); row(); stays(); judge(); lots(); image(); on(); count(); refusals();
        System.out.println(checks + " checks, " + wrong + " of them wrong");
        if (wrong != 0) System.exit(1);
    }

    private static void due(String call, long got, long want) {
        checks++;
        if (got == want) return;
        wrong++;
        System.out.println("promise " + promise + ": " + call + " answered " + got + ", due is " + want);
    }

    private static void fraction(String call, long above, long below, long wantAbove, long wantBelow) {
        due(call + " above the line", above, wantAbove);
        due(call + " below the line", below, wantBelow);
    }

    private static int shedOf(StripInFiveSteps x, String text) {
        for (int i = 0; i < text.length(); i++) due("letter", x.letter(text.charAt(i)), i + 1);
        return x.shed();
    }

    private static StripInFiveSteps after(String text) {
        StripInFiveSteps x = new StripInFiveSteps();
        int statements = 0;
        for (int i = 0; i < text.length(); i++) if (text.charAt(i) == ';') statements++;
        due("shed " + text, shedOf(x, text), statements);
        return x;
    }

    private static StripInFiveSteps withNoneLeft() {
        return after("l01400;");
    }

    private static StripInFiveSteps withRow(StripInFiveSteps x, int... numbers) {
        for (int number : numbers) x.row(number);
        return x;
    }

    private static void newObject() {
        promise = 1;
        StripInFiveSteps x = new StripInFiveSteps();
        int[] first = {40, 40, 0, 5, 2, 0, 5, 4, 0, 0};
        for (int what = 0; what < first.length; what++) due("count(" + what + ")", x.count(what), first[what]);
        for (int r = 1; r <= 40; r++) due("likely(" + r + ")", x.likely(r), 1);
        for (int what = 11; what <= 16; what++) due("count(" + what + ")", x.count(what), 0);
        due("kind(0, 1)", x.kind(0, 1), 0);
        due("kind(1, 1)", x.kind(1, 1), 0);
    }

    private static void letters() {
        promise = 2;
        StripInFiveSteps x = new StripInFiveSteps();
        due("letter(-1)", x.letter(-1), -4);
        due("letter(low)", x.letter(LOW), -4);
        due("letter(256)", x.letter(256), -6);
        due("letter(high)", x.letter(HIGH), -6);
        due("letter(0)", x.letter(0), 1);
        for (int n = 2; n <= 96; n++) due("letter(255)", x.letter(255), n);
        due("letter behind 96", x.letter(255), -6);
        due("letter(-1) behind 96", x.letter(-1), -4);
        due("count(9)", x.count(9), 96);
        due("count(14)", x.count(14), 3);
        due("count(16)", x.count(16), 3);
    }

    private static void sheds() {
        promise = 3;
        StripInFiveSteps x = after("l01400;l05304;l15209;b7;sh3;ed6;p9807;");
        int[] numbers = {7, 3, 6, 98, 7};
        for (int i = 0; i < 5; i++) due("count(" + (i + 3) + ")", x.count(i + 3), numbers[i]);
        int[][] likely = {{4, 0}, {5, 4}, {14, 4}, {15, 9}, {20, 9}, {21, 4}, {30, 4}, {31, 0}};
        for (int[] one : likely) due("likely(" + one[0] + ")", x.likely(one[0]), one[1]);
        due("letters are no more", x.count(9), 0);
        due("kind(0, 0)", x.kind(0, 0), 2);
        due("kind(1, 0)", x.kind(1, 0), 2);
        String stripLetters = "adhb";
        for (int k = 0; k < 4; k++) due("kind", after("s" + stripLetters.charAt(k) + "9;").kind(0, 0), k);
        String eyeLetters = "ewdsc";
        for (int k = 0; k < 5; k++) due("kind", after("e" + eyeLetters.charAt(k) + "9;").kind(1, 0), k);
        due("l0101", after("l01015;").likely(1), 5);
        due("l4040", after("l40405;").likely(40), 5);
        StripInFiveSteps tried = after("t102;");
        due("LEFT", tried.count(0), 2);
        due("TRIED", tried.count(2), 1);
        due("96 letters", after("b5;b5;b5;b5;b5;b5;b5;b5;b5;b5;b5;b5;b5;b5;b5;b5;"
            + "b5;b5;b5;b5;b5;b5;b5;b5;b5;b5;b5;b5;b5;b5;b5;b3;").count(3), 3);
    }

    private static void shedFaults() {
        promise = 3;
        String[] texts = {"", "b", "b5", "b5;;", "b5;x", "B5;", "b5;b", "l01401", "l0140x;", "l01401x", "sq2;",
            "sa", "sax;", "ea0;", "ee;", "p010;", "p01011;", "t01;", "t0100;", "5", ";", "b9;x", "l", "la",
            "b15;", "t0a0;", "se1;", "eh1;", "b\u00b2;"};
        int[] places = {0, 1, 2, 3, 3, 0, 4, 6, 5, 6, 1,
            2, 2, 1, 2, 4, 5, 3, 4, 0, 0, 3, 1, 1,
            2, 2, 1, 1, 1};
        for (int i = 0; i < texts.length; i++) due(texts[i], shedOf(new StripInFiveSteps(), texts[i]), -1000 - places[i]);
        String[] notSo = {"b1;", "b8;", "b0;", "sa0;", "l00011;", "l01411;", "l02011;", "l41421;", "t000;", "t410;",
            "t015;", "t018;", "t019;", "t057;"};
        for (String text : notSo) {
            due(text, shedOf(new StripInFiveSteps(), text), -2000);
            due("p0000;b2;" + text, shedOf(new StripInFiveSteps(), "p0000;b2;" + text), -2009);
        }
        StripInFiveSteps x = new StripInFiveSteps();
        due("nothing comes", shedOf(x, "l01409;b3;sb7;es6;p9998;t010;b8;"), -2029);
        due("LEFT", x.count(0), 40);
        due("WEIGHT", x.count(1), 40);
        due("TRIED", x.count(2), 0);
        int[] first = {5, 2, 0, 5, 4};
        for (int i = 0; i < 5; i++) due("count(" + (i + 3) + ")", x.count(i + 3), first[i]);
        due("kind(0, 0)", x.kind(0, 0), 0);
        due("kind(1, 0)", x.kind(1, 0), 0);
        due("letters are no more", x.count(9), 0);
        for (int what = 11; what <= 16; what++) due("nothing is counted", x.count(what), 0);
    }

    private static void shedsBehindSheds() {
        promise = 3;
        StripInFiveSteps x = new StripInFiveSteps();
        due("ec0;t018;", shedOf(x, "ec0;t018;"), 2);
        due("LEFT", x.count(0), 35);
        due("a SHED goes on from what there is", shedOf(x, "t013;"), -2000);
        due("t028;", shedOf(x, "t028;"), 1);
        due("TRIED", x.count(2), 2);
        StripInFiveSteps full = new StripInFiveSteps();
        for (int n = 1; n <= 99; n++) full.tryIt(40, 0);
        due("TRIED", full.count(2), 99);
        due("99 TRIED", shedOf(full, "b4;t400;"), -2003);
        due("BANDS", full.count(3), 5);
        due("without a strip", shedOf(full, "b4;"), 1);
        StripInFiveSteps nearly = new StripInFiveSteps();
        for (int n = 1; n <= 98; n++) nearly.tryIt(40, 0);
        due("the 99th and another", shedOf(nearly, "t400;t400;"), -2005);
        due("the 99th", shedOf(nearly, "t400;"), 1);
        due("l01400;t400;", shedOf(new StripInFiveSteps(), "l01400;t400;"), -2007);
    }

    private static void likely() {
        promise = 4;
        StripInFiveSteps x = after("l07079;l40400;");
        due("likely(7)", x.likely(7), 9);
        due("likely(40)", x.likely(40), 0);
        due("likely(1)", x.likely(1), 1);
        for (int r : new int[] {0, -1, 41, LOW, HIGH}) due("likely(" + r + ")", x.likely(r), -1);
    }

    private static void make() {
        promise = 5;
        StripInFiveSteps x = new StripInFiveSteps();
        due("make(1, 9)", x.make(1, 9), 1);
        due("make(1, 0)", x.make(1, 0), 9);
        due("make(40, 3)", x.make(40, 3), 1);
        due("likely(40)", x.likely(40), 3);
        due("WEIGHT", x.count(1), 41);
        due("LEFT", x.count(0), 39);
        for (int r : new int[] {0, 41, LOW, HIGH}) due("make(" + r + ", -1)", x.make(r, -1), -1);
        due("make(2, -1)", x.make(2, -1), -4);
        due("make(2, low)", x.make(2, LOW), -4);
        due("make(2, 10)", x.make(2, 10), -6);
        due("make(2, high)", x.make(2, HIGH), -6);
        due("likely(2)", x.likely(2), 1);
    }

    private static void set() {
        promise = 6;
        StripInFiveSteps x = new StripInFiveSteps();
        int[] first = {5, 2, 0, 5, 4};
        int[] least = {2, 1, 0, 0, 0};
        int[] greatest = {7, 9, 9, 99, 99};
        for (int what = 0; what < 5; what++) {
            due("set least", x.set(what, least[what]), first[what]);
            due("set below", x.set(what, least[what] - 1), -4);
            due("set low", x.set(what, LOW), -4);
            due("set greatest", x.set(what, greatest[what]), least[what]);
            due("set above", x.set(what, greatest[what] + 1), -6);
            due("set high", x.set(what, HIGH), -6);
            due("count", x.count(what + 3), greatest[what]);
        }
        for (int what : new int[] {-1, 5, LOW, HIGH}) due("set(" + what + ", -1)", x.set(what, -1), -2);
        due("count(12)", x.count(12), 4);
    }

    private static void kind() {
        promise = 7;
        StripInFiveSteps x = new StripInFiveSteps();
        int before = 0;
        for (int k = 3; k >= 0; k--) {
            due("kind(0, " + k + ")", x.kind(0, k), before);
            before = k;
        }
        for (int k = 4; k >= 0; k--) {
            due("kind(1, " + k + ")", x.kind(1, k), before);
            before = k;
        }
        int[][] wrongOnes = {{0, 4}, {0, -1}, {1, 5}, {1, -1}, {2, 0}, {-1, 0}, {LOW, 0}, {0, HIGH}, {1, LOW}};
        for (int[] one : wrongOnes) due("kind(" + one[0] + ", " + one[1] + ")", x.kind(one[0], one[1]), -2);
        due("count(12)", x.count(12), wrongOnes.length);
    }

    private static void bands(String text, int v, int... seconds) {
        StripInFiveSteps x = after(text);
        for (int i = 0; i < seconds.length; i++) due(text + " band(" + v + ", " + i + ")", x.band(v, i), seconds[i]);
        due(text + " a band more", x.band(v, seconds.length), -1);
    }

    private static void band() {
        promise = 8;
        bands("b5;", 10, 10, 12, 14, 16, 18);
        bands("b7;sa9;", 40, 40, 49, 58, 67, 76, 85, 94);
        bands("b2;sa1;", 1, 1, 2);
        bands("b7;sd1;", 5, 5, 10, 20, 40, 80, 160, 240);
        bands("b7;sd3;", 5, 5, 12, 22, 42, 82, 162, 240);
        bands("b7;sd9;", 3, 3, 14, 20, 32, 56, 104, 200);
        bands("b7;sd9;", 40, 40, 88, 168, 240, 240, 240, 240);
        bands("b7;sh1;", 5, 5, 8, 12, 18, 27, 41, 62);
        bands("b7;sh4;", 5, 5, 11, 15, 21, 30, 44, 65);
        bands("b7;sh1;", 1, 1, 2, 3, 5, 8, 12, 18);
        bands("b7;sh9;", 40, 40, 68, 98, 143, 211, 240, 240);
        bands("b5;sb2;", 10, 18, 16, 14, 12, 10);
        bands("b3;sb9;", 40, 58, 49, 40);
        StripInFiveSteps x = new StripInFiveSteps();
        int[][] wrongOnes = {{0, 0}, {41, 0}, {1, -1}, {1, 5}, {1, 8}, {LOW, 0}, {HIGH, 0}, {1, LOW}, {1, HIGH}};
        for (int[] one : wrongOnes) due("band(" + one[0] + ", " + one[1] + ")", x.band(one[0], one[1]), -1);
    }

    private static void tells(String text, int v, int... rAndBand) {
        StripInFiveSteps x = after(text);
        for (int i = 0; i + 1 < rAndBand.length; i += 2) {
            due(text + " told(" + v + ", " + rAndBand[i] + ")", x.told(v, rAndBand[i]), rAndBand[i + 1]);
        }
    }

    private static void told() {
        promise = 9;
        tells("ee9;", 10, 1, 0, 10, 0, 11, 0, 12, 1, 13, 1, 14, 2, 17, 3, 18, 4, 40, 4);
        tells("ew2;", 10, 1, 0, 9, 0, 10, 1, 11, 1, 12, 2, 40, 4);
        tells("ed3;", 10, 1, 0, 9, 0, 10, 1, 11, 1, 12, 2, 40, 4);
        tells("ed1;", 10, 11, 0, 12, 1);
        tells("ed0;", 10, 11, 0, 12, 1);
        tells("es9;", 10, 1, 0, 10, 0, 11, 1, 12, 1, 13, 2, 17, 4, 18, 4, 40, 4);
        tells("ec0;", 10, 9, 8, 10, 0, 11, 8, 12, 1, 18, 4, 19, 8);
        tells("ec1;", 10, 8, 8, 9, 0, 11, 1, 19, 4, 20, 8);
        tells("ec9;", 20, 10, 8, 11, 0, 37, 4, 38, 8);
        tells("ew9;", 40, 1, 0, 32, 0, 33, 1, 40, 4);
        tells("sb2;", 10, 1, 4, 11, 4, 12, 3, 17, 1, 18, 0, 40, 0);
        tells("sb2;es0;", 10, 1, 4, 10, 4, 11, 3, 17, 0, 40, 0);
        tells("sd3;b7;", 5, 8, 0, 9, 1, 17, 1, 18, 2, 32, 2, 33, 3);
        tells("sh1;b7;", 5, 6, 0, 7, 1, 10, 1, 11, 2, 15, 2, 16, 3, 22, 3, 23, 4, 34, 4, 35, 5);
        StripInFiveSteps x = new StripInFiveSteps();
        int[][] wrongOnes = {{0, 1}, {41, 1}, {1, 0}, {1, 41}, {LOW, 1}, {1, HIGH}};
        for (int[] one : wrongOnes) due("told(" + one[0] + ", " + one[1] + ")", x.told(one[0], one[1]), -1);
    }

    private static void tryIt() {
        promise = 10;
        StripInFiveSteps x = after("l14145;");
        due("tryIt(10, 2)", x.tryIt(10, 2), 2);
        for (int r = 1; r <= 40; r++) due("likely(" + r + ")", x.likely(r), r == 14 ? 5 : r == 15 ? 1 : 0);
        due("TRIED", x.count(2), 1);
        due("told so by none", x.tryIt(10, 1), -3);
        due("TRIED", x.count(2), 1);
        due("one that parts nothing", x.tryIt(15, 0), 2);
        int[][] wrongOnes = {{0, 0}, {41, 0}, {10, -1}, {10, 5}, {10, 7}, {10, 9}, {LOW, 0}, {1, HIGH}};
        for (int[] one : wrongOnes) due("tryIt(" + one[0] + ", " + one[1] + ")", x.tryIt(one[0], one[1]), -1);
        due("tryIt(10, 8)", x.tryIt(10, 8), -3);
        for (int n = 3; n <= 99; n++) due("tryIt(15, 0)", x.tryIt(15, 0), 2);
        due("TRIED", x.count(2), 99);
        due("99 TRIED", x.tryIt(15, 0), -6);
        due("-3 ahead of -6", x.tryIt(10, 0), -3);
        due("-1 ahead of both", x.tryIt(0, 0), -1);
        due("TRIED", x.count(2), 99);
        due("CAREFUL", after("ec1;").tryIt(10, 8), 29);
    }

    private static void parts() {
        promise = 11;
        StripInFiveSteps x = new StripInFiveSteps();
        due("parts(10)", x.parts(10), 5);
        due("parts(40)", x.parts(40), 1);
        due("parts(39)", x.parts(39), 1);
        due("parts(38)", x.parts(38), 2);
        due("with 8", after("ec1;").parts(10), 6);
        due("what is LEFT", after("l01400;l11141;").parts(10), 3);
        due("none LEFT", withNoneLeft().parts(10), 0);
        for (int v : new int[] {0, 41, LOW, HIGH}) due("parts(" + v + ")", x.parts(v), -1);
    }

    private static void worst() {
        promise = 12;
        StripInFiveSteps x = new StripInFiveSteps();
        due("worst(10)", x.worst(10), 23);
        due("worst(40)", x.worst(40), 40);
        due("with 8", after("ec1;").worst(10), 29);
        due("LIKELY does not matter", after("l01059;").worst(10), 23);
        due("what is LEFT", after("l01400;l11149;").worst(10), 2);
        due("none LEFT", withNoneLeft().worst(10), 0);
        for (int v : new int[] {0, 41, LOW, HIGH}) due("worst(" + v + ")", x.worst(v), -1);
        x.worst(10);
        x.kind(0, 1);
        due("DOUBLING", x.worst(10), 16);
        x.kind(0, 3);
        due("BACK", x.worst(10), 23);
        x.set(1, 9);
        due("another STEP", x.worst(10), 14);
        x.set(0, 2);
        due("other BANDS", x.worst(10), 26);
        x.set(2, 5);
        due("another FIGURE", x.worst(10), 26);
        x.kind(1, 1);
        due("WET", x.worst(10), 31);
        x.set(2, 4);
        due("another FIGURE", x.worst(10), 30);
        x.image();
        x.set(1, 1);
        x.worst(10);
        x.on();
        due("ON from the IMAGE", x.worst(10), 30);
    }

    private static void mean() {
        promise = 13;
        StripInFiveSteps x = new StripInFiveSteps();
        fraction("mean(10)", x.mean(10, 0), x.mean(10, 1), 331, 20);
        fraction("mean(40)", x.mean(40, 0), x.mean(40, 1), 40, 1);
        x.make(1, 9);
        fraction("by LIKELY", x.mean(10, 0), x.mean(10, 1), 125, 8);
        StripInFiveSteps none = withNoneLeft();
        fraction("none LEFT", none.mean(10, 0), none.mean(10, 1), 0, 1);
        due("mean(0, 2)", x.mean(0, 2), LONGS + 1);
        due("mean(41, 0)", x.mean(41, 0), LONGS + 1);
        due("mean(1, 2)", x.mean(1, 2), LONGS + 2);
        due("mean(1, -1)", x.mean(1, -1), LONGS + 2);
        due("none LEFT, part 2", none.mean(1, 2), LONGS + 2);
    }

    private static void best() {
        promise = 14;
        StripInFiveSteps x = new StripInFiveSteps();
        due("best(0)", x.best(0), 16);
        due("best(1)", x.best(1), 16);
        due("best(2)", x.best(2), 1);
        StripInFiveSteps weighty = after("l01109;");
        due("by WORST LIKELY does not matter", weighty.best(0), 16);
        due("on the MEAN it does", weighty.best(1), 3);
        due("one LEFT", after("l01400;l20201;").best(0), 1);
        due("the first but one", after("b2;l01400;l03041;").best(0), 2);
        due("the last", after("b2;ew9;l01400;l32331;").best(0), 40);
        for (int by : new int[] {-1, 3, LOW, HIGH}) {
            due("best(" + by + ")", x.best(by), -2);
            due("best(" + by + ") with none LEFT", withNoneLeft().best(by), -2);
        }
        for (int by = 0; by < 3; by++) due("none LEFT", withNoneLeft().best(by), -3);
    }

    private static void bestOf() {
        promise = 15;
        StripInFiveSteps x = new StripInFiveSteps();
        fraction("bestOf(0)", x.bestOf(0, 0), x.bestOf(0, 1), 17, 1);
        fraction("bestOf(1)", x.bestOf(1, 0), x.bestOf(1, 1), 59, 4);
        fraction("bestOf(2)", x.bestOf(2, 0), x.bestOf(2, 1), 5, 1);
        StripInFiveSteps weighty = after("l01109;");
        fraction("by LIKELY", weighty.bestOf(1, 0), weighty.bestOf(1, 1), 48, 5);
        int[][] wrongOnes = {{3, 0}, {-1, 0}, {0, 2}, {0, -1}, {LOW, LOW}};
        for (int[] one : wrongOnes) {
            due("bestOf", x.bestOf(one[0], one[1]), LONGS + 2);
            due("bestOf with none LEFT", withNoneLeft().bestOf(one[0], one[1]), LONGS + 2);
        }
        due("none LEFT", withNoneLeft().bestOf(1, 1), LONGS + 3);
    }

    private static void bestKind() {
        promise = 16;
        due("HALFWAY", new StripInFiveSteps().bestKind(), 2);
        StripInFiveSteps three = after("b3;sb1;");
        due("DOUBLING", three.bestKind(), 1);
        due("the KIND stays", three.kind(0, 0), 3);
        due("ADDING and BACK alike", after("b5;sb8;").bestKind(), 0);
        due("so for a SLOW one", after("b5;sb8;es0;").bestKind(), 0);
        due("all alike", after("l01400;l20201;sh1;").bestKind(), 0);
        due("none LEFT", withNoneLeft().bestKind(), -3);
    }

    private static void give() {
        promise = 17;
        due("give()", new StripInFiveSteps().give(), 20);
        due("by LIKELY", after("l40409;").give(), 24);
        for (int r = 1; r <= 40; r++) due("one LEFT", after(String.format("l01400;l%02d%02d1;", r, r)).give(), r);
        due("of several the least", after("l01400;l10101;l30301;").give(), 10);
        due("without FAULT", after("p0500;").give(), 1);
        due("none LEFT", withNoneLeft().give(), -3);
    }

    private static void faults() {
        promise = 18;
        StripInFiveSteps x = new StripInFiveSteps();
        fraction("faults", x.faults(0), x.faults(1), 40, 1);
        StripInFiveSteps three = after("l01400;l01012;l02021;");
        fraction("by LIKELY", three.faults(0), three.faults(1), 4, 3);
        StripInFiveSteps free = after("p0500;");
        fraction("without FAULT", free.faults(0), free.faults(1), 0, 1);
        for (int part : new int[] {-1, 2, LOW, HIGH}) {
            due("faults(" + part + ")", x.faults(part), LONGS + 2);
            due("faults(" + part + ") with none LEFT", withNoneLeft().faults(part), LONGS + 2);
        }
        due("none LEFT", withNoneLeft().faults(0), LONGS + 3);
    }

    private static void goOn() {
        promise = 19;
        due("goOn()", new StripInFiveSteps().goOn(), 1);
        due("PRICE 25", after("p2504;").goOn(), 1);
        due("PRICE 26", after("p2604;").goOn(), 0);
        due("it costs less", after("l01400;l02031;p0104;").goOn(), 1);
        due("it costs as much", after("l01400;l02031;p0204;").goOn(), 0);
        due("nothing to gain", after("l01400;l20201;p0004;").goOn(), 0);
        due("without FAULT", after("p0000;").goOn(), 0);
        due("none LEFT", withNoneLeft().goOn(), -3);
    }

    private static void goOnCosts() {
        promise = 20;
        StripInFiveSteps x = new StripInFiveSteps();
        fraction("goOnCosts", x.goOnCosts(0), x.goOnCosts(1), 197, 10);
        StripInFiveSteps free = after("p0000;");
        fraction("for nothing", free.goOnCosts(0), free.goOnCosts(1), 0, 1);
        StripInFiveSteps two = after("l01400;l01021;");
        fraction("a strip that parts nothing", two.goOnCosts(0), two.goOnCosts(1), 7, 1);
        due("goOnCosts(2)", x.goOnCosts(2), LONGS + 2);
        due("goOnCosts(-1)", withNoneLeft().goOnCosts(-1), LONGS + 2);
        due("none LEFT", withNoneLeft().goOnCosts(1), LONGS + 3);
    }

    private static void enough() {
        promise = 21;
        StripInFiveSteps x = after("l01400;l02031;l20209;");
        due("enough(20)", x.enough(20), 1);
        due("enough(2)", x.enough(2), 1);
        due("not LEFT", x.enough(4), -3);
        due("one LEFT", after("l01400;l20201;").enough(20), 0);
        StripInFiveSteps two = after("l01400;l01021;");
        due("parted no more", two.enough(1), -9);
        due("parted no more", two.enough(2), -9);
        two.make(40, 1);
        due("another is parted from them", two.enough(40), 1);
        due("these not", two.enough(1), -9);
        for (int r : new int[] {0, 41, LOW, HIGH}) due("enough(" + r + ")", x.enough(r), -1);
        due("none LEFT", withNoneLeft().enough(1), -3);
        StripInFiveSteps tried = after("l01400;l02031;");
        for (int n = 1; n <= 99; n++) tried.tryIt(40, 0);
        due("how many were TRIED does not matter", tried.enough(2), 1);
        due("nothing changes", tried.count(0), 2);
    }

    /** A CAREFUL eye without FIGURE finds two SECONDS with a strip of two bands and leaves the rest together. */
    private static void enoughToTwelve() {
        promise = 21;
        StripInFiveSteps all = after("b2;sa1;ec0;");
        for (int r = 1; r <= 40; r++) due("enough(" + r + ")", all.enough(r), r <= 24 ? (r + 1) / 2 : -9);
        StripInFiveSteps just = after("b2;sa1;ec0;l26400;");
        due("enough(25)", just.enough(25), 12);
        StripInFiveSteps more = after("b2;sa1;ec0;l27400;");
        due("enough(24)", more.enough(24), 12);
        due("enough(25)", more.enough(25), -9);
        promise = 22;
        due("most()", just.most(), 12);
        due("most()", more.most(), -9);
    }

    private static void most() {
        promise = 22;
        due("two strips", after("b2;sa1;ec0;l05400;").most(), 2);
        due("one LEFT", after("l01400;l20201;").most(), 0);
        due("any -9", after("l01400;l01021;l40401;").most(), -9);
        due("none LEFT", withNoneLeft().most(), -3);
    }

    private static void fewest() {
        promise = 23;
        due("40 by 5", new StripInFiveSteps().fewest(), 3);
        due("25 by 5", after("l26400;").fewest(), 2);
        due("26 by 5", after("l27400;").fewest(), 3);
        due("40 by 7", after("b7;").fewest(), 2);
        due("32 by 2", after("b2;l33400;").fewest(), 5);
        due("33 by 2", after("b2;l34400;").fewest(), 6);
        due("27 by 2, CAREFUL", after("b2;ec0;l28400;").fewest(), 3);
        due("28 by 2, CAREFUL", after("b2;ec0;l29400;").fewest(), 4);
        due("27 by 2, SLOW", after("b2;es0;l28400;").fewest(), 5);
        due("one LEFT", after("l02400;").fewest(), 0);
        due("none LEFT", withNoneLeft().fewest(), -3);
    }

    private static void rule() {
        promise = 24;
        StripInFiveSteps x = after("l09090;l14149;");
        int[][] rules = {{10, 0, 10, 1, 11}, {10, 2, 2, 14, 15}, {10, 4, 23, 18, 40}, {40, 1, 0, -9, -9}, {10, 8, 0, -9, -9}};
        for (int[] one : rules) {
            for (int what = 0; what < 3; what++) due("rule", x.rule(one[0], one[1], what), one[2 + what]);
        }
        due("CAREFUL", after("ec1;").rule(10, 8, 0), 29);
        due("the last alone", after("l01390;").rule(1, 4, 1), 40);
        due("the first alone", after("l02400;").rule(1, 0, 2), 1);
        int[][] nobodies = {{0, 0, 3}, {41, 0, 0}, {1, -1, 3}, {1, 5, 0}, {1, 7, 0}, {1, 9, 0}, {1, LOW, 0}, {HIGH, 0, 0}};
        for (int[] one : nobodies) due("rule", x.rule(one[0], one[1], one[2]), -1);
        due("rule(1, 0, 3)", x.rule(1, 0, 3), -2);
        due("rule(1, 0, -1)", x.rule(1, 0, -1), -2);
        due("nothing changes", x.count(0), 39);
    }

    private static void twoEyes() {
        promise = 25;
        StripInFiveSteps x = new StripInFiveSteps();
        due("EYE, SLOW", x.twoEyes(10, 0, 3, 0), 4);
        due("EYE, SLOW", x.twoEyes(10, 0, 3, 1), 11);
        due("EYE, WET", x.twoEyes(10, 0, 1, 0), 0);
        due("EYE, WET", x.twoEyes(10, 0, 1, 1), -9);
        due("alike", x.twoEyes(10, 4, 4, 0), 0);
        x.set(2, 1);
        due("EYE, WET", x.twoEyes(10, 0, 1, 0), 4);
        due("EYE, DRY", x.twoEyes(10, 0, 2, 0), 0);
        due("WET, SLOW", x.twoEyes(10, 1, 3, 0), 0);
        due("SLOW, CAREFUL", x.twoEyes(10, 3, 4, 0), 29);
        x.make(1, 0);
        due("of what is LEFT", x.twoEyes(10, 4, 3, 0), 28);
        due("of what is LEFT", x.twoEyes(10, 4, 3, 1), 2);
        due("none LEFT", withNoneLeft().twoEyes(10, 0, 3, 0), 0);
        due("none LEFT", withNoneLeft().twoEyes(10, 0, 3, 1), -9);
        due("v 0", x.twoEyes(0, 5, 5, 5), -1);
        due("v 41", x.twoEyes(41, 0, 0, 0), -1);
        int[][] others = {{5, 0, 0}, {-1, 0, 0}, {0, 5, 0}, {0, -1, 0}, {0, 0, 2}, {0, 0, -1}};
        for (int[] one : others) due("twoEyes", x.twoEyes(1, one[0], one[1], one[2]), -2);
    }

    private static void whose() {
        promise = 26;
        due("an empty ROW", new StripInFiveSteps().whose(0), 31);
        due("an empty ROW", new StripInFiveSteps().whose(1), 1023);
        StripInFiveSteps x = withRow(new StripInFiveSteps(), 10, 11, 0);
        due("ties", x.whose(0), 7);
        due("it stays", x.count(8), 3);
        due("by all FIGURES of an EYE", x.whose(1), 1023);
        withRow(x, 10, 12, 1);
        due("two of them", x.whose(0), 7);
        withRow(x, 10, 14, 2);
        due("three of them", x.whose(0), 7);
        withRow(x, 10, 9, 8);
        due("not all so", x.whose(0), 0);
        due("8", withRow(new StripInFiveSteps(), 10, 11, 8).whose(0), 16);
        due("a BAND that is none", withRow(new StripInFiveSteps(), 10, 11, 7).whose(0), 0);
        due("CAREFUL", withRow(after("ec9;"), 10, 21, 8).whose(1), 7);
        due("WET", withRow(after("ew9;"), 10, 11, 1).whose(1), 6);
        due("DRY", withRow(after("ed9;"), 10, 11, 1).whose(1), 12);
        due("FIGURE as it is", withRow(after("ee2;"), 10, 11, 1).whose(0), 2 | 4 | 8 | 16);
        int[][] rows = {{1}, {1, 1}, {1, 1, 1, 1}, {0, 1, 1}, {41, 1, 1}, {1, 0, 1}, {1, 41, 1}, {1, 1, 9}, {1, 1, 1, 1, 1, 99}};
        for (int[] one : rows) {
            due("whose(0)", withRow(new StripInFiveSteps(), one).whose(0), -3);
            due("whose(1)", withRow(new StripInFiveSteps(), one).whose(1), -3);
            due("whose(2)", withRow(new StripInFiveSteps(), one).whose(2), -2);
        }
        due("whose(-1)", x.whose(-1), -2);
        due("not LEFT does not matter", withRow(withNoneLeft(), 10, 11, 0).whose(0), 7);
    }

    private static void limit() {
        promise = 27;
        for (int r = 1; r <= 40; r++) {
            StripInFiveSteps one = after(String.format("l01400;l%02d%02d1;", r, r));
            for (int what = 0; what < 3; what++) due("one LEFT", one.limit(what), r);
        }
        int[][] dues = {{1, 40, 20}, {11, 40, 25}, {7, 7, 7}, {1, 40, 24}, {3, 9, 3}, {-9, -9, -9}};
        String[] texts = {"b5;", "l01100;", "l01400;l07073;", "l40409;", "l01400;l03032;l09092;", "l01400;"};
        for (int i = 0; i < texts.length; i++) {
            StripInFiveSteps x = after(texts[i]);
            for (int what = 0; what < 3; what++) due(texts[i] + " limit(" + what + ")", x.limit(what), dues[i][what]);
            for (int what : new int[] {-1, 3, LOW, HIGH}) due("limit(" + what + ")", x.limit(what), -2);
        }
    }

    private static void costs() {
        promise = 28;
        StripInFiveSteps x = new StripInFiveSteps();
        fraction("costs(0, 20)", x.costs(0, 20, 0), x.costs(0, 20, 1), 40, 1);
        fraction("costs(20, 20)", x.costs(20, 20, 0), x.costs(20, 20, 1), 140, 1);
        fraction("costs(1, 1)", x.costs(1, 1, 0), x.costs(1, 1, 1), 83, 1);
        StripInFiveSteps three = after("l01400;l01011;l02022;");
        fraction("costs(0, 1)", three.costs(0, 1, 0), three.costs(0, 1, 1), 8, 3);
        fraction("costs(1, 1)", three.costs(1, 1, 0), three.costs(1, 1, 1), 23, 3);
        StripInFiveSteps free = after("p0000;");
        fraction("for nothing", free.costs(20, 40, 0), free.costs(20, 40, 1), 0, 1);
        StripInFiveSteps none = withNoneLeft();
        due("-4 first", none.costs(-1, 0, 2), LONGS + 4);
        due("-6 then", none.costs(21, 0, 2), LONGS + 6);
        due("-1 then", none.costs(20, 0, 2), LONGS + 1);
        due("-1 then", none.costs(0, 41, 2), LONGS + 1);
        due("-2 then", none.costs(0, 1, 2), LONGS + 2);
        due("-3 last", none.costs(0, 1, 1), LONGS + 3);
        due("low", x.costs(LOW, 1, 0), LONGS + 4);
        due("high", x.costs(HIGH, 1, 0), LONGS + 6);
    }

    private static void worth() {
        promise = 29;
        due("worth()", new StripInFiveSteps().worth(), 25);
        due("PRICE does not matter", after("p9904;").worth(), 25);
        due("two that are parted", after("l01400;l02031;").worth(), 1);
        due("two that are not", after("l01400;l01021;").worth(), -9);
        due("PRICE 0 alone", after("l01400;l02031;p5001;").worth(), 0);
        due("99 at most", after("l01400;l01011;l40401;p0099;").worth(), 99);
        due("one LEFT", after("l02400;").worth(), -9);
        due("none LEFT", withNoneLeft().worth(), -3);
        StripInFiveSteps x = after("p0799;");
        x.worth();
        due("PRICE stays", x.count(6), 7);
    }

    private static void row() {
        promise = 30;
        StripInFiveSteps x = new StripInFiveSteps();
        due("row(-1)", x.row(-1), -4);
        due("row(100)", x.row(100), -6);
        for (int n = 1; n <= 12; n++) due("row", x.row(n % 2 == 0 ? 0 : 99), n);
        due("row behind 12", x.row(0), -6);
        due("row(-1) behind 12", x.row(-1), -4);
        due("row(low)", x.row(LOW), -4);
        due("row(high)", x.row(HIGH), -6);
        due("count(8)", x.count(8), 12);
    }

    private static void stays() {
        promise = 31;
        int[][] rows = {{}, {10, 2}, {10, 2, 10, 0}, {10, 2, 14}, {10}, {0, 0}, {41, 0}, {10, 5}, {10, 8}, {10, 4, 10, 2, 30, 0}, {10, 4, 30, 0}};
        int[] left = {40, 2, 2, 2, 40, 40, 40, 40, 40, 23, 14};
        for (int i = 0; i < rows.length; i++) {
            StripInFiveSteps x = withRow(new StripInFiveSteps(), rows[i]);
            due("stays()", x.stays(), left[i]);
            due("stays() again", x.stays(), left[i]);
            due("the ROW stays", x.count(8), rows[i].length);
            due("nothing is TRIED", x.count(0), 40);
        }
        due("none LEFT", withRow(withNoneLeft(), 10, 2).stays(), 0);
    }

    private static void judge() {
        promise = 32;
        int[][] rows = {{}, {10, 2}, {10, 2, 10, 0}, {10, 2, 14}, {10}, {0, 0}, {41, 0}, {10, 5}, {10, 8}, {10, 4, 10, 2, 30, 0}, {10, 4, 30, 0, 30, 0, 5}};
        int[] first = {-9, -9, 1, 1, 0, 0, 0, 0, 0, 1, 3};
        for (int i = 0; i < rows.length; i++) {
            StripInFiveSteps x = withRow(new StripInFiveSteps(), rows[i]);
            due("judge()", x.judge(), first[i]);
            due("the ROW has none", x.count(8), 0);
            due("nothing is TRIED", x.count(2), 0);
            due("nothing changes", x.count(0), 40);
        }
        StripInFiveSteps full = new StripInFiveSteps();
        for (int n = 1; n <= 99; n++) full.tryIt(40, 0);
        due("how many were TRIED aside", withRow(full, 10, 2).judge(), -9);
        due("CAREFUL", withRow(after("ec1;"), 10, 8, 10, 0).judge(), 1);
        due("none LEFT", withRow(withNoneLeft(), 10, 2).judge(), 0);
    }

    private static void lots() {
        promise = 33;
        StripInFiveSteps all = after("b2;sa1;ec0;");
        StripInFiveSteps some = after("b2;sa1;ec0;l05400;");
        for (int seed : new int[] {0, 7, -1, 12345, LOW, HIGH}) {
            long z = seed & 0xffffffffL;
            int ofAll = 0;
            int ofSome = 0;
            for (int n = 1; n <= 20; n++) {
                z = (z * 1664525L + 1013904223L) % 4294967296L;
                int r = (int) (z % 2147483648L / 256 % 40) + 1;
                ofAll += Math.min(12, (r + 1) / 2);
                ofSome += r <= 4 ? (r + 1) / 2 : 0;
                due("lots(" + n + ", " + seed + ")", all.lots(n, seed), ofAll);
                due("a SECOND that is not LEFT", some.lots(n, seed), ofSome);
            }
        }
        due("lots(3, 7)", new StripInFiveSteps().lots(0, 7), -4);
        due("lots(low, 7)", all.lots(LOW, 7), -4);
        due("lots(21, 7)", all.lots(21, 7), -6);
        due("lots(high, 7)", all.lots(HIGH, 7), -6);
        due("none LEFT", withNoneLeft().lots(20, 3), 0);
    }

    private static void image() {
        promise = 34;
        StripInFiveSteps x = after("l01400;l14154;");
        due("image()", x.image(), 2);
        x.make(1, 1);
        due("image() again", x.image(), 3);
        x.make(2, 1);
        due("on() from the later one", x.on(), 3);
        due("likely(2)", x.likely(2), 0);
        due("none LEFT", withNoneLeft().image(), 0);
    }

    private static void on() {
        promise = 35;
        StripInFiveSteps x = new StripInFiveSteps();
        due("there is none", x.on(), -3);
        due("count(13)", x.count(13), 1);
        due("shed", shedOf(x, "l01207;b3;sh4;es5;p0706;t101;"), 6);
        int left = x.count(0);
        int weight = x.count(1);
        x.image();
        for (int times = 0; times < 2; times++) {
            due("shed", shedOf(x, "l01401;b7;sb9;ec0;p1112;t408;"), 6);
            withRow(x, 1, 2);
            x.letter(5);
            x.likely(0);
            due("on()", x.on(), left);
            int[] counts = {left, weight, 1, 3, 4, 5, 7, 6, 2 * (times + 1), 1};
            for (int what = 0; what < counts.length; what++) due("count(" + what + ")", x.count(what), counts[what]);
            due("kind(0, 3)", x.kind(0, 3), 2);
            due("kind(1, 4)", x.kind(1, 4), 3);
            due("REFUSALS stay", x.count(11), times + 1);
            due("the letters stay", x.shed(), -1000);
        }
    }

    private static void count() {
        promise = 36;
        StripInFiveSteps x = after("l01059;l40400;t400;");
        due("LEFT", x.count(0), 39);
        due("WEIGHT", x.count(1), 79);
        due("TRIED", x.count(2), 1);
        for (int what : new int[] {-1, 10, 17, LOW, HIGH}) due("count(" + what + ")", x.count(what), -9);
        for (int what = 11; what <= 16; what++) due("-9 is no REFUSAL", x.count(what), 0);
    }

    private static void refusals() {
        promise = 36;
        StripInFiveSteps x = new StripInFiveSteps();
        x.likely(0);
        x.mean(0, 0);
        x.best(3);
        x.faults(2);
        x.kind(2, 2);
        x.on();
        x.make(1, -1);
        x.costs(-1, 1, 0);
        x.row(100);
        x.costs(21, 1, 0);
        x.lots(21, 1);
        x.letter(256);
        int[] counts = {2, 3, 1, 2, 0, 4};
        for (int i = 0; i < counts.length; i++) due("count(" + (11 + i) + ")", x.count(11 + i), counts[i]);
        StripInFiveSteps none = withNoneLeft();
        none.best(0);
        none.bestOf(0, 0);
        none.bestKind();
        none.give();
        none.faults(0);
        none.goOn();
        none.goOnCosts(0);
        none.enough(1);
        none.most();
        none.fewest();
        none.costs(0, 1, 0);
        none.worth();
        none.tryIt(1, 0);
        due("count(13)", none.count(13), 13);
    }
}
