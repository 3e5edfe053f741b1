import java.lang.management.ManagementFactory;
import java.lang.reflect.InvocationTargetException;
import java.lang.reflect.Method;
import java.lang.reflect.Modifier;
import java.util.ArrayList;
import java.util.Comparator;
import java.util.List;
import java.util.Random;
import java.util.Set;

/** Calls by chance with any arguments in any state: none may throw, and none may make an object. */
public final class WildTest extends Kit {
    private static final int[] EDGES = {
        Integer.MIN_VALUE, Integer.MIN_VALUE + 1, -1000, -2, -1, 0, 1, 2, 3, 4, 5, 6, 7, 8, 9, 10, 11, 15, 16, 20, 59, 60, 61,
        99, 100, 255, 256, 899, 900, 901, 10_000, 100_000, 2_000_000_000, 2_000_000_001, Integer.MAX_VALUE - 1, Integer.MAX_VALUE
    };
    /** The greatest desk that the bounds allow in most ways. */
    static final String GREAT =
            "desk states 8 really 7 days 10 heal 3 leak 30;grades 0 1 5 20 40 60 80 99;"
            + "hearer thinks 20 9 7 5 4 3 2 1 reckons 2;hearer thinks 0 0 0 0 0 0 0 1;"
            + "hearer thinks 1 1 1 1 1 1 1 1 reckons 1;hearer thinks 1 2 3 4 5 6 7 8 reckons 5;"
            + "word shame 10 of 1 2 3 4 5 6 7;word shame 20 of 0 2 3 4 5 6 7;word shame 30 of 0 1 3 4 5 6 7;"
            + "word shame 40 of 0 1 2 4 5 6 7;word shame 50 of 0 1 2 3 5 6 7;word shame 60 of 0 1 2 3 4 6 7;"
            + "word shame 70 of 0 1 2 3 4 5 7;word shame 999 of 6;"
            + "plan 0 1 2 3 4;plan 0 1;plan 7 6;plan 5;"
            + "news bad 99;news bad 98;news good 50;news bad 7;news good 1;news bad 60;"
            + "tells 0 1;tells 1 2;tells 2 3;tells 3 0;";

    public static void main(String[] args) throws IllegalAccessException {
        anyArguments();
        greatestDesk();
        sameAgain();
        nothingMade();
        Kit.finish();
    }

    private static List<Method> face() {
        List<Method> methods = new ArrayList<>();
        for (Method method : GentleLetters.class.getDeclaredMethods()) {
            if (Modifier.isPublic(method.getModifiers())) {
                methods.add(method);
            }
        }
        methods.sort(Comparator.comparing(Method::getName));
        return methods;
    }

    private static Object[] arguments(Method method, Random random) {
        Object[] arguments = new Object[method.getParameterCount()];
        for (int i = 0; i < arguments.length; i++) {
            int kind = random.nextInt(10);
            int value = kind == 0 ? random.nextInt() : kind < 3 ? EDGES[random.nextInt(EDGES.length)] : random.nextInt(5);
            if (method.getParameterTypes()[i] == long.class) {
                arguments[i] = kind == 1 ? random.nextLong() : (long) value;
            } else {
                arguments[i] = value;
            }
        }
        return arguments;
    }

    private static void anyArguments() throws IllegalAccessException {
        List<Method> methods = face();
        for (int number = 0; number < 300; number++) {
            Random random = new Random(number);
            GentleLetters x = new GentleLetters();
            if (number % 3 > 0) {
                x = Kit.told(number % 3 == 1 ? GREAT : Naive.byChance(random).text());
            }
            for (int call = 0; call < 1000; call++) {
                Method method = methods.get(random.nextInt(methods.size()));
                if (method.getName().equals("desk") && random.nextInt(20) > 0) {
                    continue;
                }
                Object[] arguments = arguments(method, random);
                try {
                    method.invoke(x, arguments);
                } catch (InvocationTargetException thrown) {
                    Kit.due(method.getName() + List.of(arguments) + " threw " + thrown.getCause(), 1, 0);
                }
            }
            Kit.due("run " + number, 0, 0);
        }
    }

    private static void greatestDesk() {
        GentleLetters x = Kit.told(GREAT);
        Kit.due("lines of the great desk", x.count(9), 28);
        Kit.due("fewest of the great desk", x.fewest(), 7);
        // every word that is true of one of 0 to 5 is true of 7 too
        Kit.due("unsaid of the great desk", x.unsaid(), 63);
        Kit.due("whom of the great desk", x.whom(), 1);
        Kit.due("all of the great desk", x.all(), 213L * 213 * 73 / 100);
    }

    /** What a call answers does not hang on the calls ahead of it, but for those that change something. */
    private static void sameAgain() throws IllegalAccessException {
        Set<String> changing = Set.of("feed", "end", "desk", "worsen", "really", "doubt", "undo", "image", "back", "row",
                "write", "paste");
        List<Method> methods = face();
        methods.removeIf(method -> changing.contains(method.getName()));
        GentleLetters asked = greatWithRows();
        Random random = new Random(5);
        for (int call = 0; call < 400; call++) {
            Method method = methods.get(random.nextInt(methods.size()));
            Object[] arguments = arguments(method, random);
            try {
                due("again " + method.getName() + List.of(arguments), (int) method.invoke(asked, arguments),
                        (int) method.invoke(greatWithRows(), arguments));
            } catch (InvocationTargetException thrown) {
                due(method.getName() + List.of(arguments) + " threw " + thrown.getCause(), 1, 0);
            }
        }
    }

    private static GentleLetters greatWithRows() {
        GentleLetters x = told(GREAT);
        fill(x, 0, 0, 0, 1, 8, 7, 2);
        fill(x, 1, 3, 8, 7, 6, 6, 7, 0, 1, 2, 3, 4);
        fill(x, 2, 1);
        return x;
    }

    /** All objects of a run live in one room, so that calls must not make any. */
    private static void nothingMade() {
        if (!(ManagementFactory.getThreadMXBean() instanceof com.sun.management.ThreadMXBean threads)) {
            System.out.println("this machine does not tell what a thread has made");
            return;
        }
        GentleLetters x = Kit.told(GREAT);
        Kit.fill(x, 0, 0, 0, 1, 2, 3, 4, 7);
        long id = Thread.currentThread().getId();
        dearCalls(x);
        long before = threads.getThreadAllocatedBytes(id);
        for (int i = 0; i < 100; i++) {
            dearCalls(x);
        }
        long made = threads.getThreadAllocatedBytes(id) - before;
        Kit.due("bytes made by 1,900 calls stay low: " + made, made < 10_000 ? 1 : 0, 1);
    }

    private static void dearCalls(GentleLetters x) {
        x.least(0);
        x.step(1, 3);
        x.tender(2);
        x.idle();
        x.enough(3);
        x.risk(0);
        x.now(0, 0, 255);
        x.softer(0, 0);
        x.ordered(0, 1, 2);
        x.joined(4);
        x.letter(4, 1);
        x.first();
        x.reckoned(0, 0);
        x.drawn(5, 0, 0, 1);
        x.hope(0, 0, 7, 1);
        x.worsen(1, 4);
        x.undo();
        x.image(0);
        x.back(0);
    }
}
