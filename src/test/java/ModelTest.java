import java.lang.reflect.InvocationTargetException;
import java.lang.reflect.Method;
import java.lang.reflect.Modifier;
import java.util.ArrayList;
import java.util.Comparator;
import java.util.List;
import java.util.Map;
import java.util.Random;
import java.util.TreeMap;

/** Long runs of all calls, in any order and with any arguments, each answer and exception against the model. */
public final class ModelTest {
    private static final int MOST_CALLS = 512;
    private static final Checks checks = new Checks();
    private static final Random random = new Random(12);
    private static final Map<String, Integer> seen = new TreeMap<>();

    /** Which numbers each call takes, as far as they are few: the least and the greatest of each. */
    private static final Map<String, int[]> USUAL = Map.ofEntries(
            Map.entry("board", new int[] {0, 20}), Map.entry("take", new int[] {0, 3}), Map.entry("told", new int[] {0, 6}),
            Map.entry("joint", new int[] {0, 7, 0, 5}), Map.entry("bar", new int[] {0, 4, 0, 2}),
            Map.entry("order", new int[] {0, 8}), Map.entry("why", new int[] {0, 11, 0, 7}),
            Map.entry("place", new int[] {0, 11, 0, 7, 0, 1}), Map.entry("side", new int[] {0, 11, 0, 7, 0, 1, -60, 60}),
            Map.entry("whole", new int[] {0, 11, 0, 7}), Map.entry("good", new int[] {0, 35}),
            Map.entry("lock", new int[] {0, 35}), Map.entry("holds", new int[] {0, 11, 0, 5}),
            Map.entry("cross", new int[] {0, 11, 0, 5, 0, 5}), Map.entry("crossers", new int[] {0, 5, 0, 5}),
            Map.entry("layers", new int[] {0, 2}), Map.entry("turn", new int[] {-100, 100}), Map.entry("run", new int[] {0, 1}),
            Map.entry("curve", new int[] {0, 4}), Map.entry("jump", new int[] {0, 1}), Map.entry("like", new int[] {0, 2}),
            Map.entry("larger", new int[] {0, 7, 0, 7, 0, 4, -40, 40}), Map.entry("mark", new int[] {-2000, 2000, -2000, 2000}),
            Map.entry("far", new int[] {0, 3}), Map.entry("lots", new int[] {1, 200, -99, 99, 0, 1}),
            Map.entry("count", new int[] {0, 2}), Map.entry("feed", new int[] {0, 0, 0, 0, 0, 0, 0, 0, 0, 0}));

    private final DrawingBars bars = new DrawingBars();
    private final Model model = new Model();
    private final List<String> told = new ArrayList<>();

    public static void main(String[] args) throws ReflectiveOperationException {
        int runs = args.length > 1 ? Integer.parseInt(args[1]) : 250;
        List<Method> face = new ArrayList<>();
        for (Method method : DrawingBars.class.getDeclaredMethods()) {
            if (Modifier.isPublic(method.getModifiers())) {
                face.add(method);
            }
        }
        face.sort(Comparator.comparing(Method::getName));
        for (int i = 0; i < runs && checks.isClean(); i++) {
            new ModelTest().run(face);
        }
        for (Method method : face) {
            checks.same("answers of " + method.getName(), seen.containsKey(method.getName() + " answers"), true);
            for (Class<?> thrown : method.getExceptionTypes()) {
                String what = method.getName() + " throws " + thrown.getSimpleName();
                checks.same(what, seen.containsKey(what), true);
            }
        }
        checks.end();
    }

    private void run(List<Method> face) throws ReflectiveOperationException {
        // Some runs begin without a board, and some never get one.
        int textEvery = 1 + random.nextInt(120);
        while (told.size() < MOST_CALLS - 40 && checks.isClean()) {
            Method method = face.get(random.nextInt(face.size()));
            if (random.nextInt(textEvery) == 0) {
                tell(text());
            } else if (!method.getName().equals("clear") || random.nextInt(8) == 0) {
                ask(method.getName(), arguments(method));
            }
        }
        if (!checks.isClean()) {
            told.forEach(System.out::println);
        }
    }

    private static String text() {
        String text = random.nextInt(4) == 0 ? Boards.dense(random) : new Boards(random).text();
        return random.nextInt(3) == 0 ? text.substring(0, random.nextInt(text.length())) : text;
    }

    private void tell(String text) throws ReflectiveOperationException {
        byte[] bytes = Checks.bytes(text);
        if (random.nextInt(4) > 0) {
            ask("board", 0);
        }
        for (int i = 0; i < bytes.length; i += 20) {
            ask("feed", Checks.number(bytes, i), Checks.number(bytes, i + 4), Checks.number(bytes, i + 8),
                    Checks.number(bytes, i + 12), Checks.number(bytes, i + 16));
        }
        ask("board", bytes.length);
    }

    private static int[] arguments(Method method) {
        int[] arguments = new int[method.getParameterCount()];
        int[] usual = USUAL.get(method.getName());
        for (int i = 0; i < arguments.length; i++) {
            arguments[i] = argument(usual[2 * i], usual[2 * i + 1]);
        }
        return arguments;
    }

    private static int argument(int least, int most) {
        switch (random.nextInt(40)) {
            case 0:
                return random.nextInt();
            case 1:
                return random.nextBoolean() ? Integer.MIN_VALUE : Integer.MAX_VALUE;
            case 2:
                return random.nextBoolean() ? least - 1 : most + 1;
            case 3:
                return random.nextBoolean() ? least : most;
            default:
                return least + random.nextInt(most - least + 1);
        }
    }

    private void ask(String name, int... arguments) throws ReflectiveOperationException {
        String call = name + java.util.Arrays.toString(arguments);
        String got = outcome(bars, name, arguments);
        String due = outcome(model, name, arguments);
        told.add(call + " -> " + due);
        seen.merge(name + (due.startsWith("throws") ? " " + due : " answers"), 1, Integer::sum);
        checks.same("call " + told.size() + " is of the first 512", told.size() <= MOST_CALLS, true);
        checks.same(call + " answered " + got + ", due is " + due + ": alike", got.equals(due), true);
    }

    private static String outcome(Object on, String name, int[] arguments) throws ReflectiveOperationException {
        Class<?>[] kinds = new Class<?>[arguments.length];
        Object[] given = new Object[arguments.length];
        for (int i = 0; i < arguments.length; i++) {
            kinds[i] = int.class;
            given[i] = arguments[i];
        }
        try {
            return String.valueOf(on.getClass().getDeclaredMethod(name, kinds).invoke(on, given));
        } catch (InvocationTargetException e) {
            return "throws " + e.getCause().getClass().getSimpleName();
        }
    }
}
