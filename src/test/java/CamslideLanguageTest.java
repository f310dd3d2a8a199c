import java.io.IOException;
import java.lang.reflect.Array;
import java.lang.reflect.Executable;
import java.lang.reflect.Field;
import java.lang.reflect.Method;
import java.lang.reflect.Modifier;
import java.nio.file.Files;
import java.nio.file.Path;
import java.util.ArrayList;
import java.util.Collections;
import java.util.IdentityHashMap;
import java.util.List;
import java.util.Map;
import java.util.Set;
import java.util.TreeMap;
import java.util.TreeSet;
import java.util.regex.Matcher;
import java.util.regex.Pattern;

/**
 * The class beside the face in the document and the rules of LANGUAGE.md, as far as its members and its text tell
 * them. The number that is told with a wrong answer is that of the rule.
 */
public final class CamslideLanguageTest extends Check {
    private static final Path SOURCE = Path.of("src/main/java/Camslide.java");
    private static final Path DOCUMENT = Path.of("../shared/DOC.md");
    private static final List<String> NONE = List.of();
    private static final Pattern WORD_AND_BRACKET = Pattern.compile("\\b(\\w+)\\s*\\(");

    /** A method or constructor as it is written, without comments and texts. */
    private record Body(String name, boolean isConstructor, int lines, String text) {
    }

    private static String written;
    private static String code;
    private static final List<Body> bodies = new ArrayList<>();

    public static void main(String[] args) throws IOException {
        written = Files.readString(SOURCE);
        code = withoutTexts(written);
        findBodies();
        face();
        members();
        types();
        library();
        statics();
        exceptions();
        words();
        sizes();
        callsOfCalls();
        objects();
        close();
    }

    /** Comments and texts are made blank, so that their signs are not taken for code. */
    private static String withoutTexts(String text) {
        Matcher found = Pattern.compile("/\\*.*?\\*/|//[^\n]*|\"[^\"\n]*\"|'[^'\n]*'", Pattern.DOTALL).matcher(text);
        return found.replaceAll(hit -> hit.group().replaceAll("[^\n]", " "));
    }

    private static void findBodies() {
        Matcher head = Pattern.compile("(?m)^ {4}(?: {4})?(?! |(?:if|for|while|do|switch|try|else|return|throw|new)\\b)"
                + "[\\w\\[\\] ]*?\\b(\\w+)\\([^()]*\\)[\\w,\\s]*\\{").matcher(code);
        while (head.find()) {
            String name = head.group(1);
            int end = closing(code, head.end());
            int lines = (int) code.substring(head.start(), end).lines().count();
            bodies.add(new Body(name, Character.isUpperCase(name.charAt(0)), lines, code.substring(head.end(), end)));
        }
    }

    /** Where the brace is closed that was opened ahead of this place. */
    private static int closing(String text, int from) {
        int open = 1;
        int i = from;
        while (open > 0 && i < text.length()) {
            open += text.charAt(i) == '{' ? 1 : text.charAt(i) == '}' ? -1 : 0;
            i++;
        }
        return i;
    }

    private static List<String> hits(String text, String pattern) {
        List<String> row = new ArrayList<>();
        Matcher found = Pattern.compile(pattern).matcher(text);
        while (found.find()) {
            row.add(found.group().strip());
        }
        return row;
    }

    private static String shape(Executable call) {
        TreeSet<String> thrown = new TreeSet<>();
        for (Class<?> each : call.getExceptionTypes()) {
            thrown.add(each.getSimpleName());
        }
        List<String> told = new ArrayList<>();
        for (Class<?> each : call.getParameterTypes()) {
            told.add(each.getSimpleName());
        }
        String answers = call instanceof Method method ? method.getReturnType().getSimpleName() : "made";
        return answers + " " + call.getName() + told + thrown;
    }

    private static void face() throws IOException {
        String document = Files.readString(DOCUMENT);
        int from = document.indexOf("public final class Camslide {");
        String block = document.substring(from, document.indexOf("```", from));
        TreeSet<String> due = new TreeSet<>();
        Matcher call = Pattern.compile("public (\\w+ )?(\\w+)\\((.*?)\\)(?: throws (.*?))?;").matcher(block);
        while (call.find()) {
            List<String> told = new ArrayList<>();
            for (String each : call.group(3).isEmpty() ? new String[0] : call.group(3).split(", ")) {
                told.add(each.substring(0, each.indexOf(' ')));
            }
            Set<String> thrown = call.group(4) == null ? Set.of() : Set.of(call.group(4).split(", "));
            due.add((call.group(1) == null ? "made " : call.group(1)) + call.group(2) + told + new TreeSet<>(thrown));
        }
        TreeSet<String> got = new TreeSet<>();
        for (Executable each : calls(Camslide.class)) {
            if (!Modifier.isPrivate(each.getModifiers())) {
                got.add(Modifier.isPublic(each.getModifiers()) ? shape(each) : each + " is not public");
            }
        }
        is(1, "46 promises, the constructor's among them", 46, () -> due.size());
        is(1, "the face", due, () -> got);
        is(1, "the class", Modifier.PUBLIC | Modifier.FINAL, () -> Camslide.class.getModifiers());
    }

    private static List<Executable> calls(Class<?> type) {
        List<Executable> row = new ArrayList<>(List.of(type.getDeclaredMethods()));
        row.addAll(List.of(type.getDeclaredConstructors()));
        return row;
    }

    private static List<Class<?>> allClasses() {
        List<Class<?>> row = new ArrayList<>(List.of(Camslide.class.getDeclaredClasses()));
        row.add(Camslide.class);
        return row;
    }

    private static void members() {
        List<String> wrong = new ArrayList<>();
        for (Field each : Camslide.class.getDeclaredFields()) {
            if (!Modifier.isPrivate(each.getModifiers())) {
                wrong.add("field " + each.getName());
            }
        }
        for (Method one : Camslide.class.getDeclaredMethods()) {
            for (Method other : Camslide.class.getDeclaredMethods()) {
                if (Modifier.isPrivate(one.getModifiers()) && Modifier.isPublic(other.getModifiers())
                        && one.getName().equals(other.getName())) {
                    wrong.add("private " + one.getName());
                }
            }
        }
        for (Class<?> each : Camslide.class.getDeclaredClasses()) {
            boolean isShown = Modifier.isPublic(each.getModifiers()) || Modifier.isProtected(each.getModifiers());
            if (isShown || !Modifier.isStatic(each.getModifiers())) {
                wrong.add(each.getName());
            }
        }
        is(1, "members that are not as the rule says", NONE, () -> wrong);
        is(1, "one class that stands in no other", 1,
                () -> hits(code, "(?m)^\\w[\\w ]*\\b(class|interface|enum|record)\\b").size());
    }

    private static void types() {
        Set<String> plain = Set.of("int", "long", "short", "byte", "char", "boolean", "double", "float", "String");
        List<String> wrong = new ArrayList<>();
        for (Class<?> type : allClasses()) {
            for (Field each : type.getDeclaredFields()) {
                Class<?> held = each.getType().isArray() ? each.getType().getComponentType() : each.getType();
                if (!plain.contains(held.getName()) && held.getNestHost() != Camslide.class) {
                    wrong.add(each.toString());
                }
            }
        }
        is(3, "fields of other types", NONE, () -> wrong);
        is(3, "Math on doubles", NONE,
                () -> hits(code, "Math\\.(sqrt|pow|ceil|floor|round|random|log|exp|sin|cos)\\b"));
    }

    private static void library() {
        is(4, "imports", List.of("import java.util.NoSuchElementException;"), () -> hits(written, "(?m)^import.*"));
        is(4, "a package line", NONE, () -> hits(code, "(?m)^package"));
        TreeSet<String> used = new TreeSet<>(hits(code, "\\b[A-Z][a-z]\\w*\\.\\w+"));
        used.removeAll(Set.of("Math.max", "Math.min", "Math.abs"));
        used.remove("util.NoSuchElementException");
        is(4, "what else is called of a class", "[]", () -> used.toString());
        is(4, "names of packages", NONE, () -> hits(code.replaceFirst("(?m)^import.*", ""), "\\bjavax?\\."));
    }

    private static void statics() {
        Set<String> plain = Set.of("int", "long", "boolean", "char", "String", "int[]", "long[]", "char[]", "byte[]");
        List<String> wrong = new ArrayList<>();
        for (Class<?> type : allClasses()) {
            for (Field each : type.getDeclaredFields()) {
                boolean isConstant = Modifier.isFinal(each.getModifiers())
                        && plain.contains(each.getType().getSimpleName());
                if (Modifier.isStatic(each.getModifiers()) && !isConstant) {
                    wrong.add(each.toString());
                }
            }
        }
        is(5, "static state", NONE, () -> wrong);
        is(5, "static blocks", NONE, () -> hits(code, "\\bstatic\\s*\\{"));
    }

    private static void exceptions() {
        int thrown = hits(code, "\\bthrow\\b").size();
        String form = "throw new (IllegalState|IllegalArgument|IndexOutOfBounds|Arithmetic|UnsupportedOperation"
                + "|NoSuchElement|Runtime)Exception\\((\"[^\"]*\")?\\);";
        is(6, "each throw is of a form that the rule gives", thrown, () -> hits(written, form).size());
        is(6, "words", NONE, () -> hits(code, "\\b(catch|finally|synchronized|assert|equals|hashCode|toString)\\b"));
        for (Body body : bodies) {
            if (body.isConstructor()) {
                is(6, "throw in the constructor of " + body.name(), NONE, () -> hits(body.text(), "\\bthrow\\b"));
            }
        }
    }

    private static void words() {
        is(2, "lambdas and method references", NONE, () -> hits(code, "->|::"));
        is(9, "loops without an end in sight", NONE, () -> hits(code, "while \\(true\\)|for \\([^;]*;\\s*;"));
        is(10, "texts joined by +", NONE, () -> hits(written, "\"\\s*\\+|\\+\\s*\""));
        is(13, "clocks and their like", NONE,
                () -> hits(code, "\\b(System|Thread|Random|Runtime|Process|File|Date)\\b"));
    }

    private static void sizes() {
        List<String> wrong = new ArrayList<>();
        for (Class<?> type : allClasses()) {
            int fields = 0;
            for (Field each : type.getDeclaredFields()) {
                fields += Modifier.isStatic(each.getModifiers()) ? 0 : 1;
            }
            if (fields > 20) {
                wrong.add(type.getName() + " has " + fields + " fields");
            }
            for (Executable each : calls(type)) {
                if (each.getParameterCount() > 7) {
                    wrong.add(each.getName() + " takes too many parameters");
                }
            }
        }
        int count = 0;
        for (Class<?> type : allClasses()) {
            count += type.getDeclaredMethods().length;
        }
        int methods = count;
        for (Body body : bodies) {
            if (body.lines() > 60) {
                wrong.add(body.name() + " has " + body.lines() + " lines");
            }
        }
        is(11, "what is too great", NONE, () -> wrong);
        is(11, "some twelve classes", true, () -> allClasses().size() <= 12);
        is(11, "bodies that were found", methods, () -> (int) bodies.stream().filter(b -> !b.isConstructor()).count());
    }

    /** Methods of one name in several classes count as one here, so that the depth is rather too great. */
    private static void callsOfCalls() {
        Map<String, TreeSet<String>> called = new TreeMap<>();
        for (Body body : bodies) {
            called.computeIfAbsent(body.name(), name -> new TreeSet<>());
        }
        for (Body body : bodies) {
            Matcher word = WORD_AND_BRACKET.matcher(body.text());
            while (word.find()) {
                if (called.containsKey(word.group(1))) {
                    called.get(body.name()).add(word.group(1));
                }
            }
        }
        for (String name : called.keySet()) {
            is(11, "calls below " + name + " go at most eight deep", true, () -> depth(called, name, 1) <= 8);
        }
    }

    private static int depth(Map<String, TreeSet<String>> called, String name, int above) {
        int deepest = above;
        // What calls itself goes on without an end, so nothing deeper than this is asked.
        for (String each : above > 8 ? Set.<String>of() : called.get(name)) {
            deepest = Math.max(deepest, depth(called, each, above + 1));
        }
        return deepest;
    }

    private static void objects() {
        for (Body body : bodies) {
            if (!body.isConstructor()) {
                is(12, "objects made by " + body.name(), NONE,
                        () -> hits(body.text().replaceAll("throw new", ""), "\\bnew \\w+"));
            }
        }
        int[] room = new int[2];
        try {
            count(new Camslide(), room, Collections.newSetFromMap(new IdentityHashMap<>()));
        } catch (IllegalAccessException e) {
            is(12, "its objects can be counted", true, () -> false);
        }
        // 512 objects of one run would still fit into its room.
        is(12, "objects and arrays of a new one", true, () -> room[0] > 50 && room[0] <= 600000 / 512);
        is(12, "fields and elements of a new one", true, () -> room[1] > 5000 && room[1] <= 7300000 / 512);
    }

    private static void count(Object held, int[] room, Set<Object> counted) throws IllegalAccessException {
        if (held == null || !counted.add(held)) {
            return;
        }
        room[0]++;
        if (held.getClass().isArray()) {
            int length = Array.getLength(held);
            room[1] += length;
            for (int i = 0; i < length && !held.getClass().getComponentType().isPrimitive(); i++) {
                count(Array.get(held, i), room, counted);
            }
            return;
        }
        for (Field each : held.getClass().getDeclaredFields()) {
            if (!Modifier.isStatic(each.getModifiers())) {
                room[1]++;
                each.setAccessible(true);
                if (!each.getType().isPrimitive()) {
                    count(each.get(held), room, counted);
                }
            }
        }
    }
}
