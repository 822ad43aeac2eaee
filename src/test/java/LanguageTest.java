import java.lang.reflect.Constructor;
import java.lang.reflect.Field;
import java.lang.reflect.Method;
import java.lang.reflect.Modifier;
import java.nio.file.Files;
import java.nio.file.Path;
import java.util.HashSet;
import java.util.Map;
import java.util.Set;
import java.util.TreeMap;
import java.util.TreeSet;
import java.util.regex.Matcher;
import java.util.regex.Pattern;

/** The rules of LANGUAGE.md that a program can see: the face, words that are ruled out, sizes. Argument: the file. */
public final class LanguageTest {
    private static final String[] FACE = {
        "int type(int)", "int clear()", "int edits(int,int)", "int stages(int,int)", "int does()", "int drops()",
        "int undo()", "int at(int)", "int tells(int,int,int)", "int spot(int,int)", "int column(int,int)",
        "int line(int,int)", "int wide(int)", "int chunk(int,int)", "int marks(int,int)", "int lifts(int)",
        "int mark(int)", "int next(int)", "int seeks(int)", "int reads()", "int keep(int)", "int back(int)",
        "int count(int)", "long digest()"};
    private static final String[] CONSTANTS = {"BAD", "STATE", "FULL", "NONE"};
    private static final String[] RULED_OUT = {
        "\\bthrow\\b", "\\bthrows\\b", "\\btry\\b", "\\bcatch\\b", "\\bfinally\\b", "\\bsynchronized\\b",
        "\\bassert\\b", "->", "::", "\\bimport\\b", "\\bpackage\\b", "\\bObject\\b", "Exact\\b", "\\bthis\\b\\s*[,)]",
        "\\bequals\\b", "\\bhashCode\\b", "\\btoString\\b", "\\bSystem\\.(?!arraycopy)", "\\bstatic\\s*\\{"};

    // Of the library's classes the program uses this one alone.
    private static final Set<String> LIBRARY = Set.of("Math");

    private LanguageTest() {
    }

    private static String shape(Method m) {
        StringBuilder shape = new StringBuilder(m.getReturnType().getName() + " " + m.getName() + "(");
        for (Class<?> type : m.getParameterTypes()) {
            shape.append(shape.charAt(shape.length() - 1) == '(' ? "" : ",").append(type.getName());
        }
        return shape.append(")").toString();
    }

    private static void face() {
        Class<?> c = ChunkView.class;
        Due.holds("the class is public and final",
            Modifier.isPublic(c.getModifiers()) && Modifier.isFinal(c.getModifiers()));
        Set<String> open = new TreeSet<>();
        Set<String> names = new HashSet<>();
        for (Method m : c.getDeclaredMethods()) {
            if (!Modifier.isPrivate(m.getModifiers())) {
                Due.holds(m + " is public and not static",
                    Modifier.isPublic(m.getModifiers()) && !Modifier.isStatic(m.getModifiers()));
                open.add(shape(m));
                names.add(m.getName());
            }
        }
        Due.holds("the methods are those of the face: " + open, open.equals(new TreeSet<>(Set.of(FACE))));
        for (Constructor<?> made : c.getDeclaredConstructors()) {
            Due.holds(made + " is the public one",
                Modifier.isPublic(made.getModifiers()) && made.getParameterCount() == 0);
        }
        Set<String> constants = new TreeSet<>();
        for (Field f : c.getDeclaredFields()) {
            if (!Modifier.isPrivate(f.getModifiers())) {
                constants.add(f.getName());
            }
            Due.holds(f + ": static fields are final",
                !Modifier.isStatic(f.getModifiers()) || Modifier.isFinal(f.getModifiers()));
        }
        Due.holds("the constants are those of the face", constants.equals(new TreeSet<>(Set.of(CONSTANTS))));
        inside(c, names);
    }

    private static void inside(Class<?> c, Set<String> faceNames) {
        for (Method m : c.getDeclaredMethods()) {
            Due.holds(m + " has a name of its own",
                !Modifier.isPrivate(m.getModifiers()) || !faceNames.contains(m.getName()));
        }
        Due.holds("no more than twelve classes", c.getDeclaredClasses().length < 12);
        for (Class<?> own : c.getDeclaredClasses()) {
            Due.holds(own + " is static, private or package-visible", Modifier.isStatic(own.getModifiers())
                && !Modifier.isPublic(own.getModifiers()) && !Modifier.isProtected(own.getModifiers()));
            Due.holds(own + " has at most twenty fields", own.getDeclaredFields().length <= 20);
            for (Method m : own.getDeclaredMethods()) {
                Due.holds(m + " takes at most seven", m.getParameterCount() <= 7);
                Due.holds(m + " has a name of its own", !faceNames.contains(m.getName()));
            }
        }
    }

    private static void constants() {
        Due.due("BAD", ChunkView.BAD, -1);
        Due.due("STATE", ChunkView.STATE, -2);
        Due.due("FULL", ChunkView.FULL, -3);
        Due.due("NONE", ChunkView.NONE, -9);
    }

    private static String withoutComments(String source) {
        return source.replaceAll("(?s)/\\*.*?\\*/", "").replaceAll("//[^\n]*", "");
    }

    // Methods by their names: those of like names are taken for one, so that a depth may come out too great, not too
    // small.
    private static Map<String, String> bodies(String code) {
        Map<String, String> bodies = new TreeMap<>();
        Matcher method = Pattern.compile("(?ms)^( {4}| {8})(?:[\\w\\[\\]]+ )*(\\w+)\\([^)]*\\) \\{\n(.*?)^\\1\\}")
            .matcher(code);
        while (method.find()) {
            long lines = method.group(3).lines().count() + 2;
            Due.holds(method.group(2) + " has at most sixty lines", lines <= 60);
            bodies.merge(method.group(2), method.group(3), String::concat);
        }
        return bodies;
    }

    private static int depth(String name, Map<String, String> bodies, int open) {
        int deepest = open;
        Matcher call = Pattern.compile("\\b(\\w+)\\(").matcher(bodies.get(name));
        while (open <= 8 && call.find()) {
            if (bodies.containsKey(call.group(1))) {
                deepest = Math.max(deepest, depth(call.group(1), bodies, open + 1));
            }
        }
        return deepest;
    }

    private static void sizes(String source) {
        Map<String, String> bodies = bodies(withoutComments(source));
        for (String shape : FACE) {
            String name = shape.replaceAll(".* |\\(.*", "");
            Due.holds(name + " was found", bodies.containsKey(name));
            Due.holds(name + " goes at most eight deep", depth(name, bodies, 1) <= 8);
        }
    }

    private static void library(String source) {
        Set<String> known = new HashSet<>(LIBRARY);
        known.add("ChunkView");
        for (Class<?> own : ChunkView.class.getDeclaredClasses()) {
            known.add(own.getSimpleName());
        }
        Matcher name = Pattern.compile("\\b[A-Z]\\w*[a-z]\\w*").matcher(withoutComments(source));
        while (name.find()) {
            Due.holds(name.group() + " is an own class or one that the rules list", known.contains(name.group()));
        }
    }

    private static void words(String source) {
        String code = withoutComments(source);
        for (String word : RULED_OUT) {
            Matcher found = Pattern.compile(word).matcher(code);
            Due.holds("no " + word, !found.find());
        }
        Due.holds("characters 1 to 127 alone", source.chars().allMatch(sign -> sign < 128));
    }

    public static void main(String[] args) throws Exception {
        face();
        constants();
        String source = Files.readString(Path.of(args[0]));
        words(source);
        library(source);
        sizes(source);
        Due.ends();
    }
}
