import java.lang.reflect.Constructor;
import java.lang.reflect.Field;
import java.lang.reflect.Member;
import java.lang.reflect.Method;
import java.lang.reflect.Modifier;
import java.nio.charset.StandardCharsets;
import java.nio.file.Files;
import java.nio.file.Path;
import java.util.Arrays;
import java.util.HashSet;
import java.util.List;
import java.util.Set;
import java.util.TreeSet;
import java.util.regex.Matcher;
import java.util.regex.Pattern;

/** The face of the class is the document's, and its file (the first argument) keeps to what LANGUAGE.md rules out. */
public final class FaceTests {
    private static final List<String> FACE = List.of(
        "int street(int,int,int,int)", "int ofFlag(int,int)", "int strong(int)", "int knee(int)", "int sole(int)",
        "int grating(int,boolean)", "int way(int,int,int,int,int)", "int quickest()", "int lightest(int)",
        "int cost(int)", "int reading(int)", "int back(int)", "int smooth(int)", "int kinds(int)", "int strengths()",
        "int knees()", "long odds(int,int)", "int sheet(int,int,int)", "int lose(int)", "int put(int,int,int)",
        "long cell(int,int,int)", "int copy(int,int,int,int,int)", "int tell(int)", "int rattle(int)",
        "int as(int,int)", "int trace()", "int fault()", "int many(int)");
    private static final List<String> CONSTANTS = List.of("int UNKNOWN -1", "int OUTSIDE -2", "int STATE -3",
        "int FULL -4", "int NONE -9", "long LOST " + Long.MIN_VALUE);
    private static final String[] RULED_OUT = {"\\bthrow\\b", "\\bthrows\\b", "\\btry\\b", "\\bcatch\\b", "\\bassert\\b",
        "\\bsynchronized\\b", "\\bpackage\\b", "->", "::", "\\bstatic\\s*\\{", "Exact\\b", "\\.toString\\(\\)\\s*\\+",
        "\\bSystem\\.(?!arraycopy\\b)", "\\bThread\\b", "\\bRandom\\b", "\\bObject\\b", "\\bvar\\b", "\\bhashCode\\b",
        "\\bimport (?!java\\.util\\.(Arrays|ArrayList|List|Iterator);)"};
    private static final Set<String> LENT = Set.of("Math.max", "Math.min", "Math.abs", "Math.floorDiv", "Math.floorMod",
        "Integer.compare", "Integer.max", "Integer.min", "Integer.bitCount", "Long.compare", "Long.max", "Long.min",
        "Long.bitCount", "System.arraycopy", "Arrays.copyOf", "Arrays.copyOfRange", "Arrays.fill", "List.of");
    private static final Set<Class<?>> STATIC_TYPES = Set.of(int.class, long.class, boolean.class, char.class,
        String.class, int[].class, long[].class, char[].class, byte[].class);
    private static final int LONGEST_METHOD = 60, MOST_CLASSES = 12, MOST_FIELDS = 20, MOST_PARAMETERS = 7;

    private static int wrong = 0;

    private static void check(boolean holds, String what) {
        if (!holds) {
            wrong++;
            System.out.println(what);
        }
    }

    public static void main(String[] args) throws Exception {
        checkFace();
        checkConstants();
        checkStatics(ScooterFlags.class);
        for (Class<?> inside : ScooterFlags.class.getDeclaredClasses()) {
            checkInside(inside);
        }
        check(ScooterFlags.class.getDeclaredClasses().length < MOST_CLASSES, "too many classes");
        if (args.length > 0) {
            checkFile(new String(Files.readAllBytes(Path.of(args[0])), StandardCharsets.UTF_8));
        } else {
            check(false, "the class's file is not told");
        }
        System.out.println(wrong == 0 ? "the face and the language are kept" : wrong + " rules are not kept");
        if (wrong != 0) {
            System.exit(1);
        }
    }

    private static String told(Method m) {
        StringBuilder s = new StringBuilder();
        s.append(m.getReturnType()).append(' ').append(m.getName()).append('(');
        for (int k = 0; k < m.getParameterCount(); k++) {
            s.append(k > 0 ? "," : "").append(m.getParameterTypes()[k]);
        }
        return s.append(')').toString();
    }

    private static void checkFace() {
        Class<?> face = ScooterFlags.class;
        check(Modifier.isPublic(face.getModifiers()) && Modifier.isFinal(face.getModifiers()), "not public and final");
        check(face.getSuperclass() == Object.class && face.getInterfaces().length == 0, "it is of another class");
        Set<String> open = new TreeSet<>();
        Set<String> names = new HashSet<>();
        for (Method m : face.getDeclaredMethods()) {
            if (Modifier.isPublic(m.getModifiers())) {
                check(!Modifier.isStatic(m.getModifiers()), "static: " + m.getName());
                open.add(told(m));
                names.add(m.getName());
            }
        }
        check(open.equals(new TreeSet<>(FACE)), "the public methods are " + open);
        for (Method m : face.getDeclaredMethods()) {
            if (!Modifier.isPublic(m.getModifiers())) {
                check(isPrivate(m), "not private: " + m.getName());
                check(!names.contains(m.getName()), "a private one bears the name of a public one: " + m.getName());
            }
        }
        Constructor<?>[] all = face.getDeclaredConstructors();
        check(all.length == 1 && all[0].getParameterCount() == 0 && Modifier.isPublic(all[0].getModifiers()),
            "the constructor");
    }

    private static boolean isPrivate(Member m) {
        return Modifier.isPrivate(m.getModifiers()) || m.isSynthetic();
    }

    private static void checkConstants() throws IllegalAccessException {
        Set<String> open = new TreeSet<>();
        for (Field f : ScooterFlags.class.getDeclaredFields()) {
            if (Modifier.isPublic(f.getModifiers())) {
                check(Modifier.isStatic(f.getModifiers()) && Modifier.isFinal(f.getModifiers()), f.getName());
                open.add(f.getType() + " " + f.getName() + " " + f.get(null));
            } else {
                check(isPrivate(f), "not private: " + f.getName());
            }
        }
        check(open.equals(new TreeSet<>(CONSTANTS)), "the constants are " + open);
    }

    private static void checkInside(Class<?> inside) {
        check(Modifier.isStatic(inside.getModifiers()), "not static: " + inside.getName());
        check(!Modifier.isPublic(inside.getModifiers()), "public: " + inside.getName());
        long fields = Arrays.stream(inside.getDeclaredFields()).filter(f -> !Modifier.isStatic(f.getModifiers())).count();
        check(fields <= MOST_FIELDS, "too many fields: " + inside.getName());
        checkStatics(inside);
        for (Method m : inside.getDeclaredMethods()) {
            check(m.getParameterCount() <= MOST_PARAMETERS, "too many parameters: " + m);
        }
    }

    private static void checkStatics(Class<?> told) {
        for (Field f : told.getDeclaredFields()) {
            if (Modifier.isStatic(f.getModifiers()) && !f.isSynthetic()) {
                check(Modifier.isFinal(f.getModifiers()), "static and not final: " + f);
                check(STATIC_TYPES.contains(f.getType()) || told.isEnum(), "static, of another type: " + f);
            }
        }
    }

    private static void checkFile(String source) {
        String code = source.replaceAll("(?s)/\\*.*?\\*/", " ").replaceAll("//[^\n]*", " ");
        for (String word : RULED_OUT) {
            Matcher m = Pattern.compile(word).matcher(code);
            check(!m.find(), "ruled out: " + word);
        }
        Matcher lent = Pattern.compile("\\b[A-Z]\\w*\\.[a-z]\\w*(?=\\()").matcher(code);
        while (lent.find()) {
            check(LENT.contains(lent.group()), "not lent by the library: " + lent.group());
        }
        check(source.chars().allMatch(c -> c == '\n' || c >= 32 && c < 127), "signs that aren't plain");
        int from = -1;
        String[] lines = source.split("\n");
        for (int k = 0; k < lines.length; k++) {
            if (lines[k].matches("( {4}| {8})(public |private |static |final )*\\w+(\\[\\])?( \\w+)?\\(.*\\) \\{")) {
                from = k;
            } else if (lines[k].matches(" {4}(?: {4})?\\}") && from >= 0) {
                check(k - from < LONGEST_METHOD, "too long: " + lines[from].trim());
                from = -1;
            }
        }
    }
}
