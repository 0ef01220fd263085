import java.io.IOException;
import java.lang.reflect.Constructor;
import java.lang.reflect.Field;
import java.lang.reflect.Method;
import java.lang.reflect.Modifier;
import java.nio.file.Files;
import java.nio.file.Path;
import java.util.ArrayList;
import java.util.Arrays;
import java.util.List;
import java.util.Set;
import java.util.TreeSet;
import java.util.stream.Collectors;

/** The public face, and those rules of LANGUAGE.md that can be read off the class and its text. */
public final class FaceTest {
    private static final String[] FACE = {"int clear()", "int append(char)", "int star(int, int)", "int roof(int)",
        "int cloud(int, int)", "int sight(int, int)", "int claim(int, int)", "int drop(int)", "int wish(int, int, int)",
        "int pay(int, int)", "int pound(int)", "int redeem(int)", "int stay(int, int)", "int dawn()", "int read()",
        "int fault()", "int reason(int, boolean)", "int starOf(int, int)", "int roofOf(int, int)", "int wishOf(int, int)",
        "int cloudOf(int)", "int debt(int)", "int debtAgain(int)", "int seen(int)", "int seenAgain(int)",
        "int levy(int, int)", "int could(int)", "int couldAgain(int)", "int brightens(int)", "int cheapest(int)",
        "int wouldGrant()", "int richest(int)", "int brightest(int)", "int write(int)", "int writeSky(int)",
        "int written(int)", "int isWell()", "double meanCloud()", "float poundShare()", "int account(int)", "int undo()",
        "int save()", "int restore()"};
    private static final String[] FORBIDDEN = {"import ", "package ", "try ", "catch", "finally", "synchronized", "assert",
        "->", "::", "instanceof", "System.out", "System.nanoTime", "System.currentTimeMillis", "Math.random", "Exact(",
        "\" +", "+ \"", "String.", "Thread", "var "};
    private static final int LONGEST_METHOD = 60;
    private static final int MOST_PARAMETERS = 7;
    private static final int MOST_CLASSES = 12;
    private static final int MOST_FIELDS = 20;

    private static final Checks c = new Checks();

    public static void main(String[] args) throws IOException {
        constants();
        faceOfTheClass();
        names();
        classesInside();
        textOfTheProgram();
        c.end();
    }

    private static void constants() {
        c.due("NONE", StarBailiff.NONE, -1);
        c.due("BAD", StarBailiff.BAD, -2);
        c.due("REFUSED", StarBailiff.REFUSED, -3);
        c.due("NOTHING", StarBailiff.NOTHING, -4);
    }

    private static String told(Method method) {
        String places = Arrays.stream(method.getParameterTypes()).map(Class::getSimpleName)
                .collect(Collectors.joining(", "));
        return method.getReturnType().getSimpleName() + " " + method.getName() + "(" + places + ")";
    }

    private static void faceOfTheClass() {
        Set<String> face = new TreeSet<>(List.of(FACE));
        Set<String> found = new TreeSet<>();
        for (Method method : StarBailiff.class.getDeclaredMethods()) {
            if (!Modifier.isPrivate(method.getModifiers()) && !method.isSynthetic()) {
                found.add(told(method));
                c.due(told(method) + " is public", Modifier.isPublic(method.getModifiers()) ? 1 : 0, 1);
                c.due(told(method) + " is static", Modifier.isStatic(method.getModifiers()) ? 1 : 0, 0);
            }
        }
        c.same("face", found.toString(), face.toString());
        Set<String> fields = new TreeSet<>();
        for (Field field : StarBailiff.class.getDeclaredFields()) {
            if (!Modifier.isPrivate(field.getModifiers()) && !field.isSynthetic()) {
                fields.add(Modifier.toString(field.getModifiers()) + " " + field.getName());
            }
        }
        c.same("constants", fields.toString(), "[public static final BAD, public static final NONE, "
                + "public static final NOTHING, public static final REFUSED]");
        Constructor<?>[] constructors = StarBailiff.class.getDeclaredConstructors();
        c.due("constructors", constructors.length, 1);
        c.due("places of the constructor", constructors[0].getParameterCount(), 0);
        c.same("modifiers", Modifier.toString(StarBailiff.class.getModifiers()), "public final");
    }

    /** No method that is not of the face bears the name of one that is. */
    private static void names() {
        Set<String> face = new TreeSet<>();
        for (String method : FACE) {
            face.add(method.substring(method.indexOf(' ') + 1, method.indexOf('(')));
        }
        for (Class<?> each : allClasses()) {
            for (Method method : each.getDeclaredMethods()) {
                boolean isFace = each == StarBailiff.class && Modifier.isPublic(method.getModifiers());
                c.due(each.getName() + "." + method.getName() + " has a name of the face",
                        !isFace && face.contains(method.getName()) ? 1 : 0, 0);
                c.due(method.getName() + " has too many places", method.getParameterCount() > MOST_PARAMETERS ? 1 : 0, 0);
            }
        }
    }

    private static List<Class<?>> allClasses() {
        List<Class<?>> classes = new ArrayList<>(List.of(StarBailiff.class.getDeclaredClasses()));
        classes.add(StarBailiff.class);
        return classes;
    }

    private static void classesInside() {
        c.due("too many classes", allClasses().size() > MOST_CLASSES ? 1 : 0, 0);
        for (Class<?> each : allClasses()) {
            int fields = 0;
            for (Field field : each.getDeclaredFields()) {
                boolean isStatic = Modifier.isStatic(field.getModifiers());
                c.due(field + " is static and not final",
                        isStatic && !Modifier.isFinal(field.getModifiers()) ? 1 : 0, 0);
                fields += isStatic ? 0 : 1;
            }
            c.due(each.getName() + " has too many fields", fields > MOST_FIELDS ? 1 : 0, 0);
            if (each != StarBailiff.class) {
                c.due(each.getName() + " is static", Modifier.isStatic(each.getModifiers()) ? 1 : 0, 1);
                c.due(each.getName() + " is private", Modifier.isPrivate(each.getModifiers()) ? 1 : 0, 1);
            }
        }
    }

    private static void textOfTheProgram() throws IOException {
        List<String> lines = Files.readAllLines(Path.of("src/main/java/StarBailiff.java"));
        int begin = -1;
        for (int i = 0; i < lines.size(); i++) {
            String line = lines.get(i);
            for (String forbidden : FORBIDDEN) {
                c.due("line " + (i + 1) + " has '" + forbidden + "'", line.contains(forbidden) ? 1 : 0, 0);
            }
            c.due("line " + (i + 1) + " has a sign beyond 127", line.chars().anyMatch(sign -> sign > 127) ? 1 : 0, 0);
            // A method begins with its head and ends with a brace as far in as that.
            if (line.matches("( {4}| {8})[A-Za-z].*\\) \\{") && !line.matches(" +(if|for|switch|while) .*")) {
                begin = i;
            }
            boolean isEnd = begin >= 0 && line.equals(lines.get(begin).replaceAll("\\S.*", "}"));
            if (isEnd) {
                c.due("method at line " + (begin + 1) + " is too long", i - begin >= LONGEST_METHOD ? 1 : 0, 0);
                begin = -1;
            }
        }
    }
}
