import java.lang.reflect.Method;
import java.lang.reflect.Modifier;
import java.util.HashMap;
import java.util.Map;

/**
 * Every call with every edge of each of its numbers, in all combinations, in objects that are new,
 * half full and full: the class and the model answer alike, and nothing is thrown.
 */
public final class EdgesTest {
    private static final int MOST_CALLS = 512;
    private static final int[] FAR = {Integer.MIN_VALUE, Integer.MAX_VALUE};

    /** Of each call the names of its numbers, and from where to where each one goes. */
    private static final String[] CALLS = {
        "paddler weight 30 150 strength 1 99 arm 0 2 sex 0 1 age 10 90",
        "like a 0 39 b 0 39 is 0 1",
        "crew rows 2 4 drummer 0 150",
        "join crew 0 5 paddler 0 39",
        "beat crew 0 5 n 1 9",
        "seat crew 0 5",
        "sits crew 0 5 row 0 3 side 0 1",
        "trim crew 0 5 what 0 3",
        "change crew 0 5 seat 0 7 other 0 7",
        "feed w 0 255 n 1 8",
        "rule",
        "keeps crew 0 5 rule 0 5",
        "rest minutes 0 99",
        "lane crew 0 5 lane 0 3",
        "race minute 0 999 round 0 1",
        "current lane 0 3 c -9 9",
        "run race 0 23 distance 100 2000",
        "time race 0 23 lane 0 3 hundredths 0 99999",
        "told race 0 23 lane 0 3 what 0 3",
        "again race 0 23",
        "strike race 0 23 crew 0 5",
        "finalists a 0 9 b 0 9",
        "finalist i 0 5",
        "slack",
        "level first 0 3 second 0 3 part 0 1",
        "points crew 0 5",
        "table i 0 5",
        "count what 0 8",
    };

    private final Map<String, Method> ofClass = new HashMap<>();
    private final Map<String, Method> ofModel = new HashMap<>();
    private final int fullness;
    private DrumBoats x;
    private Model m;
    private int calls;

    private EdgesTest(int fullness) {
        this.fullness = fullness;
        for (Method method : DrumBoats.class.getDeclaredMethods()) {
            ofClass.put(method.getName(), method);
        }
        for (Method method : Model.class.getDeclaredMethods()) {
            method.setAccessible(true);
            ofModel.put(method.getName(), method);
        }
    }

    public static void main(String[] args) throws Exception {
        Check.due("every call of the face has its edges", CALLS.length, faceSize());
        for (int fullness = 0; fullness <= 2; fullness++) {
            for (String call : CALLS) {
                EdgesTest t = new EdgesTest(fullness);
                t.begin();
                t.goThrough(call.split(" "));
            }
        }
        Check.finish("EdgesTest");
    }

    private static int faceSize() {
        int size = 0;
        for (Method method : DrumBoats.class.getDeclaredMethods()) {
            size += Modifier.isPublic(method.getModifiers()) ? 1 : 0;
        }
        return size;
    }

    private void goThrough(String[] words) throws Exception {
        int numbers = (words.length - 1) / 3;
        long[][] edges = new long[numbers][];
        for (int i = 0; i < numbers; i++) {
            edges[i] = edgesOf(Integer.parseInt(words[3 * i + 2]), Integer.parseInt(words[3 * i + 3]));
        }
        int[] at = new int[numbers];
        boolean more = true;
        while (more) {
            long[] args = new long[numbers];
            for (int i = 0; i < numbers; i++) {
                args[i] = edges[i][at[i]];
            }
            if (calls >= MOST_CALLS) {
                begin();
            }
            call(words[0], args);
            more = false;
            for (int i = numbers - 1; i >= 0 && !more; i--) {
                at[i] = (at[i] + 1) % edges[i].length;
                more = at[i] != 0;
            }
        }
    }

    private static long[] edgesOf(int low, int high) {
        int middle = low + (high - low) / 2;
        return new long[] {FAR[0], low - 1, low, middle, high, high + 1, FAR[1]};
    }

    private void call(String name, long... args) throws Exception {
        calls++;
        Method one = ofClass.get(name);
        Object[] given = new Object[args.length];
        Class<?>[] types = one.getParameterTypes();
        StringBuilder told = new StringBuilder(name);
        for (int i = 0; i < args.length; i++) {
            if (types[i] == long.class) {
                given[i] = args[i];
            } else {
                given[i] = (int) args[i];
            }
            told.append(i == 0 ? "(" : ", ").append(args[i]);
        }
        Number got = (Number) one.invoke(x, given);
        Number due = (Number) ofModel.get(name).invoke(m, given);
        Check.due("fullness " + fullness + ": " + told, got.longValue(), due.longValue());
    }

    /** New objects, which are left new, or half filled, or filled. */
    private void begin() throws Exception {
        x = new DrumBoats();
        m = new Model();
        calls = 0;
        if (fullness > 0) {
            boats(fullness == 1 ? 20 : 40, fullness == 1 ? 3 : 6);
            rules(fullness == 1 ? 3 : 6);
            races(fullness == 1 ? 4 : 24, fullness == 1 ? 3 : 6);
        }
        if (fullness == 2) {
            for (int i = 0; i < 15; i++) {
                call("feed", 0x6D656E3C31206F72L, 8);
            }
        }
    }

    private void boats(int paddlers, int crews) throws Exception {
        for (int p = 0; p < paddlers; p++) {
            call("paddler", 50 + p, 40 + p, p % 3, p % 2, 30 + p);
        }
        for (int c = 0; c < crews; c++) {
            call("crew", 2 + c % 3, 10 * c);
            for (int p = 0; p < (c == 0 ? 8 : 6); p++) {
                call("join", c, (6 * c + p) % paddlers);
            }
            if (c % 2 == 0) {
                call("seat", c);
            }
        }
        call("like", 0, 1, 1);
    }

    private void rules(int rules) throws Exception {
        for (int i = 0; i < rules; i++) {
            call("feed", 0x6D656E3C30L + i, 5);
            call("rule");
        }
    }

    private void races(int races, int crews) throws Exception {
        call("rest", 0);
        for (int i = 0; i < races; i++) {
            call("lane", i % crews, i % 4);
            call("lane", (i + 2) % crews, (i + 1) % 4);
            call("race", 20 * i, i % 2);
        }
        call("time", 0, 0, 70);
        call("time", 0, 1, 60);
        call("run", 1, 100);
        call("strike", 0, 0);
        call("finalists", 1, 1);
        call("lane", 0, 3);
        call("lane", 2, 0);
    }
}
