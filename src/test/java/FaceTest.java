import java.io.IOException;
import java.lang.reflect.Constructor;
import java.lang.reflect.Field;
import java.lang.reflect.Method;
import java.lang.reflect.Modifier;
import java.lang.reflect.Parameter;
import java.nio.file.Files;
import java.nio.file.Path;
import java.util.ArrayList;
import java.util.Arrays;
import java.util.List;
import java.util.Set;
import java.util.TreeSet;
import java.util.regex.Matcher;
import java.util.regex.Pattern;
import java.util.stream.Collectors;

/** The class has the document's face and nothing else, and its text keeps to the rules that can be read off it. */
final class FaceTest {
    private static final String FACE = """
        public Paintedline()
        public int paint(int line, int from, int to, int colour) throws IndexOutOfBoundsException, IllegalArgumentException, IllegalStateException
        public int cut(int line, int from, int to) throws IndexOutOfBoundsException, IllegalArgumentException, IllegalStateException
        public int fill(int line, int point, int colour) throws IndexOutOfBoundsException, IllegalArgumentException, IllegalStateException
        public long allot(int line, int length, int colour) throws IndexOutOfBoundsException, IllegalArgumentException, IllegalStateException
        public int peel(int line, int side) throws IndexOutOfBoundsException, IllegalArgumentException, IllegalStateException
        public long shift(int line, int by) throws IndexOutOfBoundsException, IllegalStateException
        public int mirror(int line) throws IndexOutOfBoundsException, IllegalStateException
        public long dye(int line, int colour, int other) throws IndexOutOfBoundsException, IllegalArgumentException, IllegalStateException
        public int lay(int line, int other) throws IndexOutOfBoundsException, IllegalArgumentException, IllegalStateException
        public int meet(int line, int other) throws IndexOutOfBoundsException, IllegalArgumentException, IllegalStateException
        public int undo(int line) throws IndexOutOfBoundsException, IllegalStateException
        public int again(int line) throws IndexOutOfBoundsException, IllegalStateException
        public long takeOut(int line, int number) throws IndexOutOfBoundsException, IllegalArgumentException
        public int wash(int line) throws IndexOutOfBoundsException
        public int frame(int line, int from, int to) throws IndexOutOfBoundsException, IllegalArgumentException
        public int blot(int line, int point, int colour) throws IndexOutOfBoundsException, IllegalArgumentException
        public int knock()
        public int colour(int line, int point) throws IndexOutOfBoundsException
        public int begin(int line, int point) throws IndexOutOfBoundsException
        public int end(int line, int point) throws IndexOutOfBoundsException
        public int giver(int line, int point) throws IndexOutOfBoundsException
        public int under(int line, int point, int acts) throws IndexOutOfBoundsException, IllegalArgumentException
        public long length(int line, int colour) throws IndexOutOfBoundsException, IllegalArgumentException
        public int ranges(int line, int colour) throws IndexOutOfBoundsException, IllegalArgumentException
        public long range(int line, int number, int what) throws IndexOutOfBoundsException, IllegalArgumentException
        public String text(int line) throws IndexOutOfBoundsException
        public long next(int line, int point, int colour) throws IndexOutOfBoundsException, IllegalArgumentException
        public long before(int line, int point, int colour) throws IndexOutOfBoundsException, IllegalArgumentException
        public long nearest(int line, int point, int colour) throws IndexOutOfBoundsException, IllegalArgumentException
        public long count(int line, int from, int to, int colour) throws IndexOutOfBoundsException, IllegalArgumentException
        public boolean covers(int line, int from, int to, int colour) throws IndexOutOfBoundsException, IllegalArgumentException
        public int pieces(int line, int from, int to) throws IndexOutOfBoundsException, IllegalArgumentException
        public int window(int line, int from, int to) throws IndexOutOfBoundsException
        public long edge(int line, int from, int to, int side) throws IndexOutOfBoundsException, IllegalArgumentException
        public long framed(int line, int what) throws IndexOutOfBoundsException, IllegalArgumentException
        public int inner(int line, int from, int to) throws IndexOutOfBoundsException
        public long longest(int line, int rank, int what) throws IndexOutOfBoundsException, IllegalArgumentException
        public long gap(int line, int length) throws IndexOutOfBoundsException, IllegalArgumentException
        public boolean same(int line, int other) throws IndexOutOfBoundsException
        public long differ(int line, int other) throws IndexOutOfBoundsException
        public long meeting(int line, int other) throws IndexOutOfBoundsException
        public long everywhere(int colour) throws IllegalArgumentException
        public int acts(int line, int what) throws IndexOutOfBoundsException, IllegalArgumentException
        public int act(int line, int place, int what) throws IndexOutOfBoundsException, IllegalArgumentException
        public int tried(int what) throws IllegalArgumentException
        public int wouldBe(int line, int from, int to, int colour) throws IndexOutOfBoundsException, IllegalArgumentException
        public long wouldFall(int line, int by) throws IndexOutOfBoundsException
        public long without(int line, int number, int what) throws IndexOutOfBoundsException, IllegalArgumentException
        public boolean eitherOrder(int line, int from, int to, int second, int last) throws IndexOutOfBoundsException, IllegalArgumentException
        public boolean isSound()
        public long digest()
        """;

    private static final String[] NOT_ALLOWED = {
        "->", "::", "\\btry\\b", "\\bcatch\\b", "\\bfinally\\b", "\\bassert\\b", "\\bsynchronized\\b", "\\bimport\\b",
        "\\bpackage\\b", "\\bvar\\b", "\\bSystem\\.", "Exact\\b", "\\bstatic\\s*\\{", "\\bhashCode\\b", "\\bequals\\b",
        "\\bObject\\b", "\\bString\\.", "[^ -~\\n]"};

    private static final Check CHECK = new Check();

    public static void main(String[] args) throws IOException {
        face();
        classesInside();
        source(Files.readString(Path.of(args[0])));
        CHECK.end();
    }

    private static void face() {
        CHECK.due("modifiers", Modifier.toString(Paintedline.class.getModifiers()), "public final");
        Set<String> have = new TreeSet<>();
        for (Constructor<?> made : Paintedline.class.getDeclaredConstructors()) {
            have.add(Modifier.toString(made.getModifiers()) + " Paintedline(" + typesOf(made.getParameters()) + ")"
                    + thrownBy(made.getExceptionTypes()));
        }
        for (Method method : Paintedline.class.getDeclaredMethods()) {
            if (!Modifier.isPrivate(method.getModifiers())) {
                have.add(Modifier.toString(method.getModifiers()) + " " + method.getReturnType().getSimpleName() + " "
                        + method.getName() + "(" + typesOf(method.getParameters()) + ")"
                        + thrownBy(method.getExceptionTypes()));
            }
        }
        for (Field field : Paintedline.class.getDeclaredFields()) {
            CHECK.yes(field + " is private", Modifier.isPrivate(field.getModifiers()));
            if (Modifier.isStatic(field.getModifiers())) {
                CHECK.yes(field + " is final", Modifier.isFinal(field.getModifiers()));
            }
        }
        Set<String> want = new TreeSet<>();
        FACE.lines().forEach(line -> want.add(line.replaceAll("(int|long|boolean) \\w+(?=[,)])", "$1")));
        CHECK.due("methods of the face", (long) want.size(), 52);
        CHECK.due("face", have, want);
    }

    private static String typesOf(Parameter[] parameters) {
        return Arrays.stream(parameters).map(p -> p.getType().getSimpleName()).collect(Collectors.joining(", "));
    }

    private static String thrownBy(Class<?>[] types) {
        String names = Arrays.stream(types).map(Class::getSimpleName).collect(Collectors.joining(", "));
        return names.isEmpty() ? "" : " throws " + names;
    }

    private static void classesInside() {
        Set<String> names = new TreeSet<>();
        for (Method method : Paintedline.class.getDeclaredMethods()) {
            if (Modifier.isPublic(method.getModifiers())) {
                names.add(method.getName());
            }
        }
        List<Class<?>> all = new ArrayList<>(Arrays.asList(Paintedline.class.getDeclaredClasses()));
        all.add(Paintedline.class);
        for (Class<?> one : all) {
            boolean inside = one != Paintedline.class;
            CHECK.due(one + " is private and static", !inside
                    || Modifier.isPrivate(one.getModifiers()) && Modifier.isStatic(one.getModifiers()), true);
            for (Method method : one.getDeclaredMethods()) {
                boolean twice = !Modifier.isPublic(method.getModifiers()) && names.contains(method.getName());
                CHECK.no(method + " bears the name of a public one", twice);
                CHECK.yes(method + " takes at most seven", method.getParameterCount() <= 7);
            }
            long fields = Arrays.stream(one.getDeclaredFields()).filter(f -> !Modifier.isStatic(f.getModifiers())).count();
            CHECK.yes(one + " has some twenty fields at most", fields <= 20);
        }
        CHECK.yes("some twelve classes at most", all.size() <= 12);
    }

    private static void source(String text) {
        String code = text.replaceAll("/\\*\\*[^*]*\\*/", "").replaceAll("//[^\\n]*", "");
        for (String pattern : NOT_ALLOWED) {
            Matcher found = Pattern.compile(pattern).matcher(code);
            CHECK.due("the program has " + pattern, found.find() ? found.group() : "nothing", "nothing");
        }
        Matcher method = Pattern.compile("(?m)^( +)[^\\n ][^\\n;]*\\)[^;{]*\\{\\n(.*?)^\\1\\}$", Pattern.DOTALL).matcher(code);
        int methods = 0;
        while (method.find()) {
            methods++;
            CHECK.yes("short: " + method.group().lines().findFirst().orElse(""), method.group().lines().count() <= 60);
        }
        CHECK.yes("methods were found", methods > 52);
    }
}
