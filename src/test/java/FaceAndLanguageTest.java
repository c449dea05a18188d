import java.lang.management.ManagementFactory;
import java.lang.reflect.Constructor;
import java.lang.reflect.Field;
import java.lang.reflect.Method;
import java.lang.reflect.Modifier;
import java.nio.charset.StandardCharsets;
import java.nio.file.Files;
import java.nio.file.Path;
import java.util.Arrays;
import java.util.Set;
import java.util.TreeSet;
import java.util.regex.Matcher;
import java.util.regex.Pattern;

/** The public face, those rules of LANGUAGE.md that a text or the machine can tell, and that no call makes an object. */
public final class FaceAndLanguageTest {
    private static final String SOURCE = "src/main/java/StripInFiveSteps.java";
    private static final String[] FACE = {
        "int letter(int)", "int shed()", "int likely(int)", "int make(int, int)", "int set(int, int)", "int kind(int, int)",
        "int band(int, int)", "int told(int, int)", "int tryIt(int, int)", "int parts(int)", "int worst(int)",
        "long mean(int, int)", "int best(int)", "long bestOf(int, int)", "int bestKind()", "int give()", "long faults(int)",
        "int goOn()", "long goOnCosts(int)", "int enough(int)", "int most()", "int fewest()", "int rule(int, int, int)",
        "int twoEyes(int, int, int, int)", "int whose(int)", "int limit(int)", "long costs(int, int, int)", "int worth()",
        "int row(int)", "int stays()", "int judge()", "int lots(int, int)", "int image()", "int on()", "int count(int)"};
    private static final String[] RULED_OUT = {
        "throw", "throws", "try", "catch", "finally", "synchronized", "assert", "import", "package", "native", "volatile",
        "instanceof", "System", "Object", "Thread", "Random", "toString", "hashCode", "Exact", "NaN", "protected"};
    private static int wrong = 0;

    public static void main(String[] args) throws Exception {
        checkFace();
        checkSource(Files.readString(Path.of(SOURCE), StandardCharsets.UTF_8));
        checkThatNothingIsMade();
        System.out.println(wrong == 0 ? "the face and the language are as due" : wrong + " things are not as due");
        if (wrong != 0) System.exit(1);
    }

    private static void due(boolean holds, String what) {
        if (holds) return;
        wrong++;
        System.out.println("not so: " + what);
    }

    private static void checkFace() {
        Class<?> face = StripInFiveSteps.class;
        due(Modifier.isPublic(face.getModifiers()) && Modifier.isFinal(face.getModifiers()), "the class is public and final");
        Set<String> found = new TreeSet<>();
        Set<String> publicNames = new TreeSet<>();
        for (Method method : face.getDeclaredMethods()) {
            if (Modifier.isPrivate(method.getModifiers())) continue;
            due(Modifier.isPublic(method.getModifiers()), method.getName() + " is public or private");
            String types = Arrays.toString(Arrays.stream(method.getParameterTypes()).map(Class::getName).toArray());
            found.add(method.getReturnType().getName() + " " + method.getName() + "(" + types.substring(1, types.length() - 1) + ")");
            publicNames.add(method.getName());
        }
        due(found.equals(new TreeSet<>(Arrays.asList(FACE))), "the methods are those of the document, but are " + found);
        for (Field field : face.getDeclaredFields()) checkField(field);
        Constructor<?>[] constructors = face.getDeclaredConstructors();
        due(constructors.length == 1 && Modifier.isPublic(constructors[0].getModifiers())
            && constructors[0].getParameterCount() == 0, "there is the one constructor");
        checkPrivateNames(face, publicNames);
        for (Class<?> inside : face.getDeclaredClasses()) {
            due(Modifier.isStatic(inside.getModifiers()), inside.getName() + " is static");
            due(!Modifier.isPublic(inside.getModifiers()), inside.getName() + " is not public");
            checkPrivateNames(inside, publicNames);
            due(inside.getDeclaredFields().length <= 20, inside.getName() + " has few fields");
        }
        due(face.getDeclaredClasses().length < 12, "there are few classes");
    }

    private static void checkField(Field field) {
        int modifiers = field.getModifiers();
        due(Modifier.isPrivate(modifiers), field.getName() + " is private");
        due(!Modifier.isStatic(modifiers) || Modifier.isFinal(modifiers), field.getName() + " is final if it is static");
    }

    private static void checkPrivateNames(Class<?> in, Set<String> publicNames) {
        for (Method method : in.getDeclaredMethods()) {
            boolean ofTheFace = in == StripInFiveSteps.class && Modifier.isPublic(method.getModifiers());
            due(ofTheFace || !publicNames.contains(method.getName()), in.getName() + "." + method.getName() + " has a name of its own");
            due(method.getParameterCount() <= 7, method.getName() + " takes seven at most");
        }
    }

    private static void checkSource(String source) {
        for (int i = 0; i < source.length(); i++) due(source.charAt(i) < 128, "sign " + i + " is a plain one");
        String code = source.replaceAll("(?s)/\\*.*?\\*/", " ").replaceAll("//[^\n]*", " ").replaceAll("\"[^\"\n]*\"", "\"\"");
        for (String word : RULED_OUT) due(!Pattern.compile("\\b" + word + "\\b").matcher(code).find(), "no " + word);
        due(!code.contains("->") && !code.contains("::"), "no lambda, no method reference");
        due(!code.contains("Exact("), "no function whose name ends in Exact");
        checkThatNewIsOfFields(code);
        checkLengths(source);
    }

    /** Rows are made with their objects: each "new" stands in a line that initialises a final field. */
    private static void checkThatNewIsOfFields(String code) {
        Matcher line = Pattern.compile("[^\n]*\\bnew\\b[^\n]*").matcher(code);
        while (line.find()) due(line.group().matches("\\s*(private )?final [^=]* = new [^;]*;\\s*"), "made with its object: " + line.group());
    }

    private static void checkLengths(String source) {
        int length = 0;
        for (String line : source.split("\n")) {
            due(line.length() <= 130, "no long line: " + line);
            length = line.matches("\\s*(public|private|static|int|long|void|boolean|String).*\\) \\{") ? 0 : length + 1;
            due(length < 70 || !line.startsWith("        "), "no long method at " + line);
        }
    }

    private static void checkThatNothingIsMade() {
        com.sun.management.ThreadMXBean counter = (com.sun.management.ThreadMXBean) ManagementFactory.getThreadMXBean();
        StripInFiveSteps x = new StripInFiveSteps();
        long thread = Thread.currentThread().getId();
        callAll(x, 3);
        long before = counter.getThreadAllocatedBytes(thread);
        int calls = 0;
        for (int turn = 0; turn < 2000; turn++) calls += callAll(x, turn);
        long made = counter.getThreadAllocatedBytes(thread) - before;
        due(made < calls, "no call makes an object (" + made + " bytes in " + calls + " calls)");
    }

    private static int callAll(StripInFiveSteps x, int turn) {
        int v = turn % 44 - 1;
        int k = turn % 9;
        for (int i = 0; i < 17; i++) x.letter("l01409;ec1;t018;x".charAt(turn % 2 == 0 ? i : i / 16 * 16 + (i < 7 ? i : 0)));
        x.shed();
        x.set(turn % 6, k);
        x.kind(turn % 3, turn % 5);
        x.likely(v); x.make(v, k); x.band(v, k); x.told(v, v + 1); x.tryIt(v, k); x.parts(v); x.worst(v); x.mean(v, 0);
        x.best(turn % 4); x.bestOf(turn % 4, 1); x.bestKind(); x.give(); x.faults(0); x.goOn(); x.goOnCosts(1); x.enough(v);
        x.most(); x.fewest(); x.rule(v, k, turn % 3); x.twoEyes(v, turn % 5, 3, 0); x.row(v); x.row(k); x.whose(turn % 2);
        x.limit(turn % 3); x.costs(3, v, 0); x.worth(); x.stays(); x.judge(); x.lots(turn % 22, turn); x.image(); x.on(); x.count(k);
        return 54;
    }
}
