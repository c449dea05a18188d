import java.math.BigInteger;
import java.util.ArrayList;
import java.util.List;
import java.util.Random;
import java.util.TreeMap;

/**
 * Long runs of calls by lot, each answer against that of a model that is written as the document tells it,
 * slowly and with nothing kept: what the class keeps between calls must never be old.
 */
public final class AgainstModelTest {
    private static final int RUNS = 120;
    private static final int CALLS = 512;
    private static int wrong = 0;

    public static void main(String[] args) {
        for (int run = 0; run < RUNS && wrong < 10; run++) compareRun(run);
        System.out.println(RUNS + " runs of " + CALLS + " calls, " + wrong + " answers wrong");
        if (wrong != 0) System.exit(1);
    }

    private static void compareRun(int run) {
        Random lot = new Random(run);
        StripInFiveSteps object = new StripInFiveSteps();
        Model model = new Model();
        int calls = 0;
        while (calls < CALLS && wrong < 10) {
            for (int[] call : someCalls(lot, model)) {
                long got = callObject(object, call);
                long want = callModel(model, call);
                calls++;
                if (got == want) continue;
                wrong++;
                System.out.println("run " + run + ", call " + calls + ", method " + call[0] + " (" + call[1] + ", " + call[2] + ", "
                    + call[3] + ", " + call[4] + ") answered " + got + ", the model " + want);
            }
        }
    }

    /** Mostly one call; a text comes with all its letters, a ROW with several numbers. */
    private static List<int[]> someCalls(Random lot, Model model) {
        List<int[]> calls = new ArrayList<>();
        int choice = lot.nextInt(40);
        if (choice == 0) {
            String text = someText(lot);
            for (int i = 0; i < text.length(); i++) calls.add(new int[] {2, text.charAt(i), 0, 0, 0});
            calls.add(new int[] {3, 0, 0, 0, 0});
        } else if (choice == 1) {
            int numbers = lot.nextInt(7);
            for (int i = 0; i < numbers; i++) {
                int number = lot.nextInt(15) == 0 ? lot.nextInt(104) - 2 : lot.nextInt(3) == 0 ? lot.nextInt(9) : 1 + lot.nextInt(40);
                calls.add(new int[] {30, number, 0, 0, 0});
            }
        } else {
            calls.add(oneCall(lot, model));
        }
        return calls;
    }

    private static int[] oneCall(Random lot, Model model) {
        int method = 2 + lot.nextInt(35);
        if (method == 2 && lot.nextInt(4) != 0) method = 11;
        if (method == 3 && lot.nextInt(4) != 0) method = 35;
        int second = lot.nextInt(25) == 0 ? lot.nextInt(46) - 2 : 1 + lot.nextInt(40);
        int other = lot.nextInt(25) == 0 ? lot.nextInt(46) - 2 : 1 + lot.nextInt(40);
        int few = lot.nextInt(20) == 0 ? lot.nextInt(12) - 2 : lot.nextInt(3);
        int some = lot.nextInt(10) == 0 ? lot.nextInt(12) - 1 : lot.nextInt(5);
        switch (method) {
            case 2: return new int[] {2, lot.nextInt(260) - 2, 0, 0, 0};
            case 5: return new int[] {5, second, lot.nextInt(12) - 1, 0, 0};
            case 6: return new int[] {6, some, lot.nextInt(5) == 0 ? lot.nextInt(103) - 1 : lot.nextInt(10), 0, 0};
            case 7: return new int[] {7, few, some, 0, 0};
            case 8: return new int[] {8, second, lot.nextInt(9) - 1, 0, 0};
            case 10: return new int[] {10, second, lot.nextInt(4) == 0 ? some : toldOfOneLeft(lot, model, second), 0, 0};
            case 13: return new int[] {13, second, few, 0, 0};
            case 14: case 26: case 27: return new int[] {method, few, 0, 0, 0};
            case 15: return new int[] {15, few, lot.nextInt(2), 0, 0};
            case 18: case 20: return new int[] {method, lot.nextInt(15) == 0 ? few : lot.nextInt(2), 0, 0, 0};
            case 24: return new int[] {24, second, lot.nextInt(4) == 0 ? 8 : some, few, 0};
            case 25: return new int[] {25, second, some, lot.nextInt(5), lot.nextInt(2)};
            case 28: return new int[] {28, lot.nextInt(24) - 1, second, lot.nextInt(2), 0};
            case 30: return new int[] {30, lot.nextInt(104) - 2, 0, 0, 0};
            case 33: return new int[] {33, lot.nextInt(24) - 1, lot.nextInt(), 0, 0};
            case 36: return new int[] {36, lot.nextInt(20) - 1, 0, 0, 0};
            default: return new int[] {method, second, other, 0, 0};
        }
    }

    private static int toldOfOneLeft(Random lot, Model model, int v) {
        List<Integer> left = model.state.left();
        if (left.isEmpty() || v < 1 || v > 40) return 0;
        return model.state.told(v, left.get(lot.nextInt(left.size())));
    }

    private static String someText(Random lot) {
        StringBuilder text = new StringBuilder();
        if (lot.nextInt(2) == 0) text.append("l0140").append(1 + lot.nextInt(9)).append(';');
        int statements = 1 + lot.nextInt(5);
        for (int i = 0; i < statements; i++) text.append(someStatement(lot));
        if (lot.nextInt(10) == 0) text.setCharAt(lot.nextInt(text.length()), "lbsept;09adhwc x".charAt(lot.nextInt(16)));
        if (lot.nextInt(15) == 0) text.setLength(lot.nextInt(text.length()));
        return text.toString();
    }

    private static String someStatement(Random lot) {
        int from = lot.nextInt(30) == 0 ? 0 : 1 + lot.nextInt(40);
        int to = lot.nextInt(30) == 0 ? lot.nextInt(100) : Math.min(40, from + lot.nextInt(20));
        switch (lot.nextInt(6)) {
            case 0: return String.format("l%02d%02d%d;", from, to, lot.nextInt(10));
            case 1: return String.format("b%d;", lot.nextInt(20) == 0 ? lot.nextInt(10) : 2 + lot.nextInt(6));
            case 2: return String.format("s%c%d;", "adhb".charAt(lot.nextInt(4)), lot.nextInt(20) == 0 ? 0 : 1 + lot.nextInt(9));
            case 3: return String.format("e%c%d;", "ewdsc".charAt(lot.nextInt(5)), lot.nextInt(10));
            case 4: return String.format("p%02d%02d;", lot.nextInt(100), lot.nextInt(100));
            default: return String.format("t%02d%d;", from, lot.nextInt(8) == 0 ? 8 : lot.nextInt(3));
        }
    }

    private static long callObject(StripInFiveSteps x, int[] c) {
        switch (c[0]) {
            case 2: return x.letter(c[1]);
            case 3: return x.shed();
            case 4: return x.likely(c[1]);
            case 5: return x.make(c[1], c[2]);
            case 6: return x.set(c[1], c[2]);
            case 7: return x.kind(c[1], c[2]);
            case 8: return x.band(c[1], c[2]);
            case 9: return x.told(c[1], c[2]);
            case 10: return x.tryIt(c[1], c[2]);
            case 11: return x.parts(c[1]);
            case 12: return x.worst(c[1]);
            case 13: return x.mean(c[1], c[2]);
            case 14: return x.best(c[1]);
            case 15: return x.bestOf(c[1], c[2]);
            case 16: return x.bestKind();
            case 17: return x.give();
            case 18: return x.faults(c[1]);
            case 19: return x.goOn();
            case 20: return x.goOnCosts(c[1]);
            case 21: return x.enough(c[1]);
            case 22: return x.most();
            case 23: return x.fewest();
            case 24: return x.rule(c[1], c[2], c[3]);
            case 25: return x.twoEyes(c[1], c[2], c[3], c[4]);
            case 26: return x.whose(c[1]);
            case 27: return x.limit(c[1]);
            case 28: return x.costs(c[1], c[2], c[3]);
            case 29: return x.worth();
            case 30: return x.row(c[1]);
            case 31: return x.stays();
            case 32: return x.judge();
            case 33: return x.lots(c[1], c[2]);
            case 34: return x.image();
            case 35: return x.on();
            default: return x.count(c[1]);
        }
    }

    private static long callModel(Model m, int[] c) {
        long answer = m.answer(c);
        boolean tellsFaults = c[0] == 3;
        boolean refused = !tellsFaults && answer <= -1 && answer >= -6;
        if (refused) m.refusals[(int) -answer]++;
        boolean ofLongs = c[0] == 13 || c[0] == 15 || c[0] == 18 || c[0] == 20 || c[0] == 28;
        return refused && ofLongs ? 4000000000000000000L - answer : answer;
    }

    /** Which band an eye of each kind tells; each kind but the first says only what is other than above it. */
    private static class Eye {
        int tell(List<Integer> bands, int r, int figure) {
            int found = 0;
            for (int i = 0; i < bands.size(); i++) {
                int nearer = Math.abs(bands.get(found) - r) - Math.abs(bands.get(i) - r);
                if (nearer > 0 || nearer == 0 && bands.get(i) < bands.get(found)) found = i;
            }
            return found;
        }
    }

    private static class Wet extends Eye {
        @Override int tell(List<Integer> bands, int r, int figure) {
            return super.tell(bands, r + figure, figure);
        }
    }

    private static class Dry extends Wet {
        @Override int tell(List<Integer> bands, int r, int figure) {
            return super.tell(bands, r, figure == 0 ? 0 : figure - 1);
        }
    }

    private static class Slow extends Eye {
        @Override int tell(List<Integer> bands, int r, int figure) {
            int found = bands.size() - 1;
            for (int i = bands.size() - 1; i >= 0; i--) {
                int nearer = Math.abs(bands.get(found) - r) - Math.abs(bands.get(i) - r);
                if (nearer > 0 || nearer == 0 && bands.get(i) > bands.get(found)) found = i;
            }
            return found;
        }
    }

    private static class Careful extends Slow {
        @Override int tell(List<Integer> bands, int r, int figure) {
            int found = super.tell(bands, r, figure);
            return Math.abs(bands.get(found) - r) > figure ? 8 : found;
        }
    }

    private static class Adding {
        int seconds(int v, int i, int step, int bands) {
            return v + i * step;
        }
    }

    private static class Doubling extends Adding {
        int bare(int v, int i) {
            return i == 0 ? v : 2 * bare(v, i - 1);
        }

        @Override int seconds(int v, int i, int step, int bands) {
            return i == 0 ? v : bare(v, i) + step - 1;
        }
    }

    private static class Halfway extends Doubling {
        @Override int bare(int v, int i) {
            return i == 0 ? v : (int) Math.ceil(bare(v, i - 1) * 1.5);
        }
    }

    private static class Back extends Adding {
        @Override int seconds(int v, int i, int step, int bands) {
            return super.seconds(v, bands - 1 - i, step, bands);
        }
    }

    private static class State {
        int[] likely = new int[41];
        int[] numbers = {5, 2, 0, 5, 4};
        int strips = 0;
        int eye = 0;
        int tried = 0;

        State() {
            java.util.Arrays.fill(likely, 1, 41, 1);
        }

        State copy() {
            State copy = new State();
            copy.likely = likely.clone();
            copy.numbers = numbers.clone();
            copy.strips = strips;
            copy.eye = eye;
            copy.tried = tried;
            return copy;
        }

        List<Integer> left() {
            List<Integer> left = new ArrayList<>();
            for (int r = 1; r <= 40; r++) if (likely[r] > 0) left.add(r);
            return left;
        }

        int weight() {
            int weight = 0;
            for (int r = 1; r <= 40; r++) weight += likely[r];
            return weight;
        }

        List<Integer> bands(int v) {
            Adding kind = new Adding[] {new Adding(), new Doubling(), new Halfway(), new Back()}[strips];
            List<Integer> bands = new ArrayList<>();
            for (int i = 0; i < numbers[0]; i++) bands.add(Math.min(240, kind.seconds(v, i, numbers[1], numbers[0])));
            return bands;
        }

        int toldBy(int v, int r, int eyeKind, int figure) {
            return new Eye[] {new Eye(), new Wet(), new Dry(), new Slow(), new Careful()}[eyeKind].tell(bands(v), r, figure);
        }

        int told(int v, int r) {
            return toldBy(v, r, eye, numbers[2]);
        }

        /** What would be left, by what would be told. */
        TreeMap<Integer, State> parted(int v) {
            TreeMap<Integer, State> parts = new TreeMap<>();
            for (int r : left()) {
                State part = parts.computeIfAbsent(told(v, r), k -> {
                    State empty = copy();
                    empty.likely = new int[41];
                    empty.tried++;
                    return empty;
                });
                part.likely[r] = likely[r];
            }
            return parts;
        }

        int worst(int v) {
            int worst = 0;
            for (State part : parted(v).values()) worst = Math.max(worst, part.left().size());
            return worst;
        }

        long[] mean(int v) {
            long above = 0;
            for (State part : parted(v).values()) above += (long) part.weight() * part.left().size();
            return least(above, weight());
        }

        long[] measure(int by, int v) {
            if (by == 1) return mean(v);
            return new long[] {by == 0 ? worst(v) : parted(v).size(), 1};
        }

        int best(int by) {
            int best = 1;
            for (int v = 2; v <= 40; v++) {
                long[] a = measure(by, v);
                long[] b = measure(by, best);
                long less = b[0] * a[1] - a[0] * b[1];
                if (by == 2 ? less < 0 : less > 0) best = v;
            }
            return best;
        }

        long faultsAt(int v) {
            long faults = 0;
            for (int r : left()) faults += (long) numbers[4] * Math.abs(v - r) * likely[r];
            return faults;
        }

        int give() {
            int give = 40;
            for (int v = 40; v >= 1; v--) if (faultsAt(v) <= faultsAt(give)) give = v;
            return give;
        }

        long tryingOn() {
            long above = (long) numbers[3] * weight();
            for (State part : parted(best(0)).values()) above += part.faultsAt(part.give());
            return above;
        }

        boolean goOn() {
            return tryingOn() < faultsAt(give());
        }

        int enough(int r) {
            State state = this;
            for (int n = 0; n <= 12; n++) {
                if (state.left().size() == 1) return n;
                TreeMap<Integer, State> parts = state.parted(state.best(0));
                if (parts.size() == 1) return -9;
                for (State part : parts.values()) if (part.likely[r] > 0) state = part;
            }
            return -9;
        }
    }

    private static long[] least(long above, long below) {
        if (above == 0) return new long[] {0, 1};
        long common = BigInteger.valueOf(above).gcd(BigInteger.valueOf(below)).longValue();
        return new long[] {above / common, below / common};
    }

    private static class Model {
        State state = new State();
        State image = null;
        StringBuilder letters = new StringBuilder();
        List<Integer> row = new ArrayList<>();
        int[] refusals = new int[7];

        private static boolean no(int second) {
            return second < 1 || second > 40;
        }

        private boolean noBand(int k) {
            return k != 8 && (k < 0 || k >= state.numbers[0]);
        }

        private static boolean not(int what, int most) {
            return what < 0 || what > most;
        }

        long answer(int[] c) {
            if (c[0] < 11) return answerOfState(c);
            if (c[0] < 24) return answerOfStrips(c);
            return answerOfTheRest(c);
        }

        private long answerOfState(int[] c) {
            int a = c[1];
            int b = c[2];
            switch (c[0]) {
                case 2: return a < 0 ? -4 : a > 255 || letters.length() == 96 ? -6 : letters.append((char) a).length();
                case 3: return shed();
                case 4: return no(a) ? -1 : state.likely[a];
                case 5: return make(a, b);
                case 6: return set(a, b);
                case 7: return kind(a, b);
                case 8: return no(a) || not(b, state.numbers[0] - 1) ? -1 : state.bands(a).get(b);
                case 9: return no(a) || no(b) ? -1 : state.told(a, b);
                default: return tryIt(a, b);
            }
        }

        private long answerOfStrips(int[] c) {
            int a = c[1];
            int b = c[2];
            boolean none = state.left().isEmpty();
            switch (c[0]) {
                case 11: return no(a) ? -1 : state.parted(a).size();
                case 12: return no(a) ? -1 : state.worst(a);
                case 13: return no(a) ? -1 : not(b, 1) ? -2 : state.mean(a)[b];
                case 14: return not(a, 2) ? -2 : none ? -3 : state.best(a);
                case 15: return not(a, 2) || not(b, 1) ? -2 : none ? -3 : state.measure(a, state.best(a))[b];
                case 16: return none ? -3 : bestKind();
                case 17: return none ? -3 : state.give();
                case 18: return not(a, 1) ? -2 : none ? -3 : least(state.faultsAt(state.give()), state.weight())[a];
                case 19: return none ? -3 : state.goOn() ? 1 : 0;
                case 20: return not(a, 1) ? -2 : none ? -3 : least(state.tryingOn(), state.weight())[a];
                case 21: return no(a) ? -1 : state.likely[a] == 0 ? -3 : state.enough(a);
                case 22: return none ? -3 : most();
                default: return none ? -3 : fewest();
            }
        }

        private long answerOfTheRest(int[] c) {
            int a = c[1];
            int b = c[2];
            switch (c[0]) {
                case 24: return rule(a, b, c[3]);
                case 25: return twoEyes(a, b, c[3], c[4]);
                case 26: return whose(a);
                case 27: return limit(a);
                case 28: return costs(a, b, c[3]);
                case 29: return worth();
                case 30: return row(a);
                case 31: return judged()[1];
                case 32: {
                    int first = judged()[0];
                    row.clear();
                    return first;
                }
                case 33: return lots(a, b);
                case 34: {
                    image = state.copy();
                    return state.left().size();
                }
                case 35: {
                    if (image == null) return -3;
                    state = image.copy();
                    return state.left().size();
                }
                default: return count(a);
            }
        }

        /** The FAULT by regular expressions: what is there begins a SHED, or the place is one letter less. */
        private int shed() {
            String text = letters.toString();
            letters.setLength(0);
            String[] forms = {"l\\d\\d\\d\\d\\d;", "b\\d;", "s[adhb]\\d;", "e[ewdsc]\\d;", "p\\d\\d\\d\\d;", "t\\d\\d\\d;"};
            java.util.regex.Matcher whole = java.util.regex.Pattern.compile("(" + String.join("|", forms) + ")+").matcher(text);
            if (!whole.matches()) {
                int place = text.length();
                while (place > 0) {
                    whole.reset(text.substring(0, place));
                    if (whole.matches() || whole.hitEnd()) break;
                    place--;
                }
                return -1000 - place;
            }
            State next = state.copy();
            int place = 0;
            int statements = 0;
            for (String statement : text.split(";")) {
                if (!comes(statement, next)) return -2000 - place;
                place += statement.length() + 1;
                statements++;
            }
            state = next;
            return statements;
        }

        private static int number(String text, int from, int to) {
            return Integer.parseInt(text.substring(from, to));
        }

        private static boolean comes(String text, State next) {
            switch (text.charAt(0)) {
                case 'l': {
                    int from = number(text, 1, 3);
                    int to = number(text, 3, 5);
                    if (no(from) || no(to) || from > to) return false;
                    for (int r = from; r <= to; r++) next.likely[r] = number(text, 5, 6);
                    return true;
                }
                case 'b':
                    next.numbers[0] = number(text, 1, 2);
                    return next.numbers[0] >= 2 && next.numbers[0] <= 7;
                case 's':
                    next.strips = "adhb".indexOf(text.charAt(1));
                    next.numbers[1] = number(text, 2, 3);
                    return next.numbers[1] > 0;
                case 'e':
                    next.eye = "ewdsc".indexOf(text.charAt(1));
                    next.numbers[2] = number(text, 2, 3);
                    return true;
                case 'p':
                    next.numbers[3] = number(text, 1, 3);
                    next.numbers[4] = number(text, 3, 5);
                    return true;
                default: {
                    int v = number(text, 1, 3);
                    if (no(v) || next.tried == 99) return false;
                    State behind = next.parted(v).get(number(text, 3, 4));
                    if (behind == null) return false;
                    next.likely = behind.likely;
                    next.tried++;
                    return true;
                }
            }
        }

        private int make(int r, int v) {
            if (no(r)) return -1;
            if (v < 0) return -4;
            if (v > 9) return -6;
            int before = state.likely[r];
            state.likely[r] = v;
            return before;
        }

        private int set(int what, int v) {
            if (not(what, 4)) return -2;
            if (v < new int[] {2, 1, 0, 0, 0}[what]) return -4;
            if (v > new int[] {7, 9, 9, 99, 99}[what]) return -6;
            int before = state.numbers[what];
            state.numbers[what] = v;
            return before;
        }

        private int kind(int what, int k) {
            if (not(what, 1) || not(k, what == 0 ? 3 : 4)) return -2;
            int before = what == 0 ? state.strips : state.eye;
            if (what == 0) state.strips = k;
            else state.eye = k;
            return before;
        }

        private int tryIt(int v, int k) {
            if (no(v) || noBand(k)) return -1;
            State behind = state.parted(v).get(k);
            if (behind == null) return -3;
            if (state.tried == 99) return -6;
            state = behind;
            return state.left().size();
        }

        private int bestKind() {
            State other = state.copy();
            int best = 0;
            int least = 99;
            for (int k = 0; k < 4; k++) {
                other.strips = k;
                int worst = other.worst(other.best(0));
                if (worst < least) best = k;
                least = Math.min(least, worst);
            }
            return best;
        }

        private int most() {
            int most = 0;
            for (int r : state.left()) {
                int enough = state.enough(r);
                if (enough == -9) return -9;
                most = Math.max(most, enough);
            }
            return most;
        }

        private int fewest() {
            int n = 0;
            while (Math.pow(state.numbers[0] + (state.eye == 4 ? 1 : 0), n) < state.left().size()) n++;
            return n;
        }

        private int rule(int v, int k, int what) {
            if (no(v) || noBand(k)) return -1;
            if (not(what, 2)) return -2;
            State behind = state.parted(v).get(k);
            if (behind == null) return what == 0 ? 0 : -9;
            List<Integer> left = behind.left();
            return what == 0 ? left.size() : left.get(what == 1 ? 0 : left.size() - 1);
        }

        private int twoEyes(int v, int a, int b, int what) {
            if (no(v)) return -1;
            if (not(a, 4) || not(b, 4) || not(what, 1)) return -2;
            int unlike = 0;
            int first = -9;
            for (int r : state.left()) {
                if (state.toldBy(v, r, a, state.numbers[2]) == state.toldBy(v, r, b, state.numbers[2])) continue;
                unlike++;
                if (first == -9) first = r;
            }
            return what == 0 ? unlike : first;
        }

        private int whose(int what) {
            if (not(what, 1)) return -2;
            if (row.size() % 3 != 0) return -3;
            int bits = what == 0 ? 31 : 1023;
            for (int i = 0; i < row.size(); i += 3) if (no(row.get(i)) || no(row.get(i + 1)) || row.get(i + 2) > 8) return -3;
            for (int i = 0; i < row.size(); i += 3) {
                for (int j = 0; j < (what == 0 ? 5 : 10); j++) {
                    int told = state.toldBy(row.get(i), row.get(i + 1), what == 0 ? j : state.eye, what == 0 ? state.numbers[2] : j);
                    if (told != row.get(i + 2)) bits &= ~(1 << j);
                }
            }
            return bits;
        }

        private int limit(int what) {
            if (not(what, 2)) return -2;
            List<Integer> left = state.left();
            if (left.isEmpty()) return -9;
            if (what < 2) return left.get(what == 0 ? 0 : left.size() - 1);
            double weight = 0;
            for (int r : left) {
                weight += state.likely[r];
                if (weight >= state.weight() / 2.0) return r;
            }
            return -9;
        }

        private long costs(int n, int v, int part) {
            if (n < 0) return -4;
            if (n > 20) return -6;
            if (no(v)) return -1;
            if (not(part, 1)) return -2;
            if (state.left().isEmpty()) return -3;
            return least((long) state.numbers[3] * n * state.weight() + state.faultsAt(v), state.weight())[part];
        }

        private int worth() {
            if (state.left().isEmpty()) return -3;
            State other = state.copy();
            int worth = -9;
            for (int price = 0; price <= 99; price++) {
                other.numbers[3] = price;
                if (other.goOn()) worth = price;
            }
            return worth;
        }

        private int row(int v) {
            if (v < 0) return -4;
            if (v > 99 || row.size() == 12) return -6;
            row.add(v);
            return row.size();
        }

        private int[] judged() {
            State behind = state.copy();
            for (int i = 0; i < row.size(); i += 2) {
                int two = i / 2;
                boolean cannot = i + 1 == row.size() || no(row.get(i)) || noBand(row.get(i + 1));
                State next = cannot ? null : behind.parted(row.get(i)).get(row.get(i + 1));
                if (next == null) return new int[] {two, behind.left().size()};
                behind = next;
            }
            return new int[] {-9, behind.left().size()};
        }

        private int lots(int n, int seed) {
            if (n < 1) return -4;
            if (n > 20) return -6;
            int together = 0;
            int z = seed;
            for (int i = 0; i < n; i++) {
                z = z * 1664525 + 1013904223;
                int r = (z << 1 >>> 9) % 40 + 1;
                if (state.likely[r] == 0) continue;
                int enough = state.enough(r);
                together += enough == -9 ? 12 : enough;
            }
            return together;
        }

        private int count(int what) {
            if (what >= 3 && what <= 7) return state.numbers[what - 3];
            if (what >= 11 && what <= 16) return refusals[what - 10];
            switch (what) {
                case 0: return state.left().size();
                case 1: return state.weight();
                case 2: return state.tried;
                case 8: return row.size();
                case 9: return letters.length();
                default: return -9;
            }
        }
    }
}
