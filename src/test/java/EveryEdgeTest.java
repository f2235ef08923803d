import java.lang.reflect.InvocationTargetException;
import java.lang.reflect.Method;
import java.lang.reflect.Modifier;
import java.util.ArrayList;
import java.util.Arrays;
import java.util.Comparator;
import java.util.List;
import java.util.Set;

/**
 * Every method of the face with every row of numbers that stand at an edge or
 * just outside of one, in states from nothing to all that there can be,
 * against the model: what is answered, what is thrown (the exception that is
 * named first, if several apply), and what stands behind the call.
 */
final class EveryEdgeTest {
    private static final Check CHECK = new Check();
    private static final int MIN = Integer.MIN_VALUE;
    private static final int MAX = Integer.MAX_VALUE;
    private static final int MOST_CALLS = 512;

    private static final int[] ALONE = {
        MIN, -1, 0, 1, 2, 3, 4, 5, 6, 7, 8, 9, 10, 11, 18, 19, 20, 21, 22, 23, 24, 50, 68, 69, 70, 71, 99, 100, 101,
        998, 999, 1000, 1001, 9999, 10000, MAX,
    };
    private static final int[] OF_TWO = {
        MIN, -1, 0, 1, 2, 3, 4, 5, 6, 7, 8, 9, 19, 20, 22, 23, 69, 70, 71, 100, 101, 1000, 1001, MAX,
    };
    private static final int[] OF_THREE = {MIN, -1, 0, 1, 2, 3, 4, 18, 19, 20, MAX};
    private static final int[] TIMES = {MIN, -1, 0, 1, 18, 19, 20, 39, 40, 41, 1149, 1150, 1151, 9998, 9999, 10000, MAX};
    private static final int[] SOURCES = {MIN, -1, 0, 1, 6, 7, 8, MAX};
    private static final int[] LEVELS = {MIN, -1, 0, 1, 2, 3, 4, MAX};

    private static final Set<String> CHANGING = Set.of("line", "word", "learn", "set", "forget");

    /** A call by its name and its numbers. */
    private record Call(String name, int... numbers) {
    }

    private final String name;
    private final List<Call> calls;
    private final Model model;
    private final long digest;
    private Nightjar x;
    private int made;

    private EveryEdgeTest(String name, List<Call> calls) {
        this.name = name;
        this.calls = calls;
        model = built();
        renew();
        digest = x.digest();
        renew();
    }

    public static void main(String[] args) {
        List<Call> some = new ArrayList<>();
        add(some, 0, 0, 0, 1, 50);
        add(some, 0, 0, 3, 1, 51);
        add(some, 1, 0, 1, 2, 2, 2);
        add(some, 9, 1, 0, 1, 50);
        add(some, 40, 0, 2);
        add(some, 40, 2, 1, 1, 52);
        List<Call> learned = with(some, new Call("learn", 5));
        List<Call> most = new ArrayList<>();
        for (int i = 0; i < 70; i++) {
            add(most, i / 3 * 50, 7, 3, i / 3 % 20, i);
        }
        List<Call> full = with(List.of(), new Call("set", 0, 100));
        for (int t = 0; t < 20; t++) {
            add(full, t, 0, 0, t, 500);
        }
        add(full, 19, 0, 3, 900, 901);
        add(full, 19, 1, 3, 1, 2, 3, 4, 5, 6, 7, 8);
        new EveryEdgeTest("nothing yet", List.of()).run();
        new EveryEdgeTest("some, not learned", some).run();
        new EveryEdgeTest("some", learned).run();
        new EveryEdgeTest("some, forgotten", with(learned, new Call("forget"))).run();
        new EveryEdgeTest("all, not learned", most).run();
        new EveryEdgeTest("all", with(most, new Call("learn", 70))).run();
        new EveryEdgeTest("twenty templates, two lines left", with(full, new Call("learn", 20))).run();
        new EveryEdgeTest("twenty templates, lines of none", with(full, new Call("learn", 70))).run();
        CHECK.end("EveryEdgeTest");
    }

    private static List<Call> with(List<Call> calls, Call last) {
        List<Call> all = new ArrayList<>(calls);
        all.add(last);
        return all;
    }

    private static void add(List<Call> calls, int time, int source, int level, int... words) {
        calls.add(new Call("line", time, source, level));
        for (int word : words) {
            calls.add(new Call("word", word));
        }
    }

    private Model built() {
        Model due = new Model();
        build(due);
        return due;
    }

    private void build(Object target) {
        for (Call call : calls) {
            outcome(target, call);
        }
    }

    private void renew() {
        x = new Nightjar();
        build(x);
        made = calls.size();
    }

    private static String outcome(Object target, Call call) {
        Class<?>[] types = new Class<?>[call.numbers.length];
        Object[] numbers = new Object[call.numbers.length];
        for (int i = 0; i < numbers.length; i++) {
            types[i] = int.class;
            numbers[i] = call.numbers[i];
        }
        try {
            return target.getClass().getDeclaredMethod(call.name, types).invoke(target, numbers).toString();
        } catch (InvocationTargetException e) {
            return "throws." + e.getCause().getClass().getName();
        } catch (ReflectiveOperationException e) {
            throw new IllegalStateException(e);
        }
    }

    private void run() {
        Method[] methods = Nightjar.class.getDeclaredMethods();
        Arrays.sort(methods, Comparator.comparing(Method::getName));
        for (Method m : methods) {
            if (Modifier.isPublic(m.getModifiers())) {
                switch (m.getParameterCount()) {
                    case 0 -> compare(new Call(m.getName()));
                    case 1 -> compareAll(m.getName(), ALONE);
                    case 2 -> compareAll(m.getName(), OF_TWO, OF_TWO);
                    default -> compareAllOfThree(m.getName());
                }
            }
        }
    }

    private void compareAllOfThree(String method) {
        if (method.equals("line")) {
            compareAll(method, TIMES, SOURCES, LEVELS);
        } else {
            compareAll(method, OF_THREE, OF_THREE, OF_THREE);
        }
    }

    private void compareAll(String method, int[]... edges) {
        int rows = 1;
        for (int[] numbers : edges) {
            rows *= numbers.length;
        }
        for (int row = 0; row < rows; row++) {
            int[] numbers = new int[edges.length];
            int left = row;
            for (int i = 0; i < numbers.length; i++) {
                numbers[i] = edges[i][left % edges[i].length];
                left /= edges[i].length;
            }
            compare(new Call(method, numbers));
        }
    }

    private void compare(Call call) {
        StringBuilder what = new StringBuilder(name).append(": ").append(call.name);
        for (int n : call.numbers) {
            what.append(' ').append(n);
        }
        if (made + 2 > MOST_CALLS) {
            renew();
        }
        boolean isChanging = CHANGING.contains(call.name);
        String due = outcome(isChanging ? built() : model, call);
        CHECK.same(what.toString(), due, outcome(x, call));
        made++;
        if (due.startsWith("throws.")) {
            CHECK.same(what + ", then digest", digest, x.digest());
            made++;
        } else if (isChanging) {
            renew();
        }
    }
}
