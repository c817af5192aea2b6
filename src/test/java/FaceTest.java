import java.lang.reflect.Constructor;
import java.lang.reflect.Field;
import java.lang.reflect.Method;
import java.lang.reflect.Modifier;
import java.nio.charset.StandardCharsets;
import java.nio.file.Files;
import java.nio.file.Path;
import java.util.Arrays;
import java.util.Set;
import java.util.TreeSet;
import java.util.regex.Pattern;
import java.util.stream.Collectors;

/** The public face, and the rules of LANGUAGE.md that a test can see. */
public final class FaceTest {
    private static final String[] METHODS = {
        "int paddler(int,int,int,int,int)", "int like(int,int,int)", "int crew(int,int)",
        "int join(int,int)", "int beat(int,int)", "int seat(int)", "int sits(int,int,int)",
        "int trim(int,int)", "int change(int,int,int)", "int feed(long,int)", "int rule()",
        "int keeps(int,int)", "int rest(int)", "int lane(int,int)", "int race(int,int)",
        "int current(int,int)", "int run(int,int)", "int time(int,int,int)",
        "int told(int,int,int)", "int again(int)", "int strike(int,int)", "int finalists(int,int)",
        "int finalist(int)", "int slack()", "long level(int,int,int)", "int points(int)",
        "int table(int)", "int count(int)",
    };
    private static final Set<String> CONSTANTS = Set.of("NONE", "BAD", "STATE", "FULL", "NO");
    private static final String[] FORBIDDEN = {
        "\\bthrow\\b", "\\btry\\b", "\\bcatch\\b", "\\bsynchronized\\b", "\\bassert\\b", "\\bimport\\b",
        "\\bpackage\\b", "->", "::", "\\bSystem\\b", "\\bThread\\b", "Exact\\b", "\\bString\\.format\\b",
    };

    public static void main(String[] args) throws Exception {
        Check.due("NONE", DrumBoats.NONE, -1);
        Check.due("BAD", DrumBoats.BAD, -2);
        Check.due("STATE", DrumBoats.STATE, -3);
        Check.due("FULL", DrumBoats.FULL, -4);
        Check.due("NO", DrumBoats.NO, Long.MIN_VALUE);
        members();
        classesInside();
        source();
        Check.finish("FaceTest");
    }

    private static void members() {
        Class<?> face = DrumBoats.class;
        Check.holds("public final", Modifier.isPublic(face.getModifiers())
                && Modifier.isFinal(face.getModifiers()));
        Set<String> open = new TreeSet<>();
        Set<String> names = new TreeSet<>();
        for (Method method : face.getDeclaredMethods()) {
            if (!Modifier.isPrivate(method.getModifiers())) {
                open.add(told(method));
                names.add(method.getName());
            }
        }
        Check.holds("methods: " + open, open.equals(new TreeSet<>(Arrays.asList(METHODS))));
        for (Method method : face.getDeclaredMethods()) {
            Check.holds("private " + method.getName() + " has a public one's name",
                    !Modifier.isPrivate(method.getModifiers()) || !names.contains(method.getName()));
        }
        for (Field field : face.getDeclaredFields()) {
            boolean isConstant = CONSTANTS.contains(field.getName());
            Check.holds("field " + field, Modifier.isPrivate(field.getModifiers()) != isConstant);
            Check.holds("static and not final: " + field,
                    !Modifier.isStatic(field.getModifiers()) || Modifier.isFinal(field.getModifiers()));
        }
        Constructor<?>[] constructors = face.getDeclaredConstructors();
        Check.holds("one public constructor", constructors.length == 1
                && Modifier.isPublic(constructors[0].getModifiers())
                && constructors[0].getParameterCount() == 0);
    }

    private static String told(Method method) {
        return method.getReturnType() + " " + method.getName() + Arrays
                .stream(method.getParameterTypes()).map(Class::getName)
                .collect(Collectors.joining(",", "(", ")"));
    }

    private static void classesInside() {
        Class<?>[] inside = DrumBoats.class.getDeclaredClasses();
        Check.holds("at most twelve classes", inside.length < 12);
        for (Class<?> c : inside) {
            Check.holds(c + " is static, not public", Modifier.isStatic(c.getModifiers())
                    && !Modifier.isPublic(c.getModifiers()) && !Modifier.isProtected(c.getModifiers()));
            long fields = Arrays.stream(c.getDeclaredFields())
                    .filter(f -> !Modifier.isStatic(f.getModifiers())).count();
            Check.holds(c + " has at most 20 fields", fields <= 20);
            for (Method method : c.getDeclaredMethods()) {
                Check.holds(method + " has at most 7 parameters", method.getParameterCount() <= 7);
            }
        }
    }

    private static void source() throws Exception {
        String text = Files.readString(Path.of("src/main/java/DrumBoats.java"),
                StandardCharsets.UTF_8);
        String code = text.replaceAll("(?s)/\\*.*?\\*/", "").replaceAll("//[^\n]*", "");
        for (String forbidden : FORBIDDEN) {
            Check.holds("the source has no " + forbidden, !Pattern.compile(forbidden).matcher(code).find());
        }
    }
}
