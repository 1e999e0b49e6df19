import java.lang.reflect.InvocationTargetException;
import java.lang.reflect.Method;
import java.util.ArrayList;
import java.util.Arrays;
import java.util.List;

/**
 * Runs of up to 512 calls on a SnowPlough and on the Model, with the same answers. Each exception is one that the
 * method declares, of that very class, and thrown by the program itself.
 */
public final class ModelTest {
    private static final String CHANGES = "drive driveTo waitFor refill setFall undo drive driveTo";
    private final List<Method> methods = new ArrayList<>();
    private final Dice dice;
    private final SnowPlough plough = new SnowPlough();
    private final Model model = new Model();
    private final StringBuilder story = new StringBuilder();
    private int calls = 0;

    private ModelTest(long seed) {
        dice = new Dice(seed);
        for (Method method : SnowPlough.class.getDeclaredMethods()) {
            if (java.lang.reflect.Modifier.isPublic(method.getModifiers())) {
                methods.add(method);
            }
        }
        // The order in which the machine names them is not promised.
        methods.sort((a, b) -> a.getName().compareTo(b.getName()));
    }

    public static void main(String[] args) throws Exception {
        int runs = args.length > 2 ? Integer.parseInt(args[2]) : 3000;
        int first = args.length > 3 ? Integer.parseInt(args[3]) : 1;
        int calls = 0;
        boolean good = true;
        for (int run = first; run < first + runs && good; run++) {
            ModelTest test = new ModelTest(run);
            good = test.run();
            calls += test.calls;
            if (!good) {
                System.out.println("run " + run + ":\n" + test.story);
            }
        }
        Check.is("answers as the model's", true, good);
        System.out.println(calls + " calls compared");
        Check.end("ModelTest");
    }

    private boolean run() throws Exception {
        int length = dice.pick(20, 60, 200, 512);
        boolean good = true;
        if (!dice.one(10)) {
            good = load();
        }
        while (good && calls < length) {
            int choice = dice.below(100);
            if (choice < 3) {
                good = load();
            } else if (choice < 5) {
                good = find();
            } else if (choice < 30) {
                String[] changes = CHANGES.split(" ");
                good = call(named(changes[dice.below(changes.length)]));
            } else {
                good = call(methods.get(dice.below(methods.size())));
            }
        }
        return good;
    }

    private Method named(String name) {
        for (Method method : methods) {
            if (method.getName().equals(name)) {
                return method;
            }
        }
        throw new IllegalArgumentException(name);
    }

    private boolean load() throws Exception {
        return same(named("truncate"), 0) && type(Texts.any(dice)) && same(named("load"))
                && same(named("errorCode")) && same(named("errorPosition"));
    }

    private boolean find() throws Exception {
        String name = new String[] {"a", "b", "dd", "hijklm", "zzzzzz", "node", "", "aB", "abcdefg", "a "}[dice.below(10)];
        return same(named("truncate"), 0) && type(name) && same(named("find"), dice.one(2));
    }

    private boolean type(String text) throws Exception {
        boolean good = true;
        for (int i = 0; i < text.length() && good; i += 20) {
            Object[] words = new Object[5];
            for (int w = 0; w < 5; w++) {
                int word = 0;
                for (int k = 0; k < 4; k++) {
                    int at = i + 4 * w + k;
                    word = word << 8 | (at < text.length() ? text.charAt(at) : ' ');
                }
                words[w] = word;
            }
            good = same(named("append"), words);
        }
        return good && same(named("truncate"), text.length());
    }

    private boolean call(Method method) throws Exception {
        Object[] values = new Object[method.getParameterCount()];
        for (int i = 0; i < values.length; i++) {
            values[i] = method.getParameterTypes()[i] == boolean.class ? (Object) dice.one(2) : number(method, i);
        }
        return same(method, values);
    }

    private int number(Method method, int index) {
        if (dice.one(50)) {
            return dice.pick(Integer.MIN_VALUE, Integer.MAX_VALUE, -1, 1 << 30, -2);
        }
        String name = method.getName();
        if (name.equals("waitFor")) {
            return dice.pick(0, 1, dice.below(4000), dice.below(4000), dice.below(86402), 86400, 86401);
        }
        if (name.equals("setFall")) {
            return dice.pick(dice.below(101), 0, 1, 99, model.fall());
        }
        if (name.equals("drive") || name.equals("driveTime")) {
            return leavingArc();
        }
        if (name.equals("append")) {
            return dice.one(2) ? 0x20202020 : dice.any();
        }
        if (name.contains("Deep") || name.contains("deep") || name.contains("Depth") || name.contains("After")) {
            return snowNumber(name, index);
        }
        if (name.equals("outputByte")) {
            return dice.below(1000);
        }
        return dice.pick(dice.below(4), dice.below(11), dice.below(25));
    }

    private int snowNumber(String name, int index) {
        if (index == 0 && name.equals("secondsToDepth") || index == 0 && name.equals("depthAfter")) {
            return dice.below(25);
        }
        if (index == 0 && !name.equals("deepArcs") && !name.equals("nearestDeepArc")) {
            return dice.below(5);
        }
        return name.endsWith("After")
                ? dice.pick(0, 1, dice.below(4000), dice.below(1000002), 1000000, 1000001)
                : dice.pick(0, 1, dice.below(20), dice.below(2002), 2000, 2001);
    }

    private int leavingArc() {
        int arc = dice.below(24);
        for (int i = 0; i < 24; i++) {
            int next = (arc + i) % 24;
            if ((model.arcs() >> next & 1) != 0 && model.arcStart(next) == model.position()) {
                return next;
            }
        }
        return arc;
    }

    private boolean same(Method method, Object... values) throws Exception {
        Object due = answer(Model.class.getMethod(method.getName(), method.getParameterTypes()), model, values);
        Object got = answer(method, plough, values);
        calls++;
        story.append(method.getName()).append(Arrays.toString(values)).append(" -> ").append(got).append('\n');
        if (!String.valueOf(due).equals(String.valueOf(got))) {
            story.append("due is ").append(due).append('\n');
            return false;
        }
        return true;
    }

    private static Object answer(Method method, Object object, Object[] values) throws Exception {
        try {
            return method.invoke(object, values);
        } catch (InvocationTargetException e) {
            Throwable thrown = e.getCause();
            String name = thrown.getClass().getName();
            if (object instanceof Model) {
                return name;
            }
            boolean declared = Arrays.asList(method.getExceptionTypes()).contains(thrown.getClass());
            boolean own = thrown.getStackTrace()[0].getClassName().startsWith("SnowPlough");
            return declared && own && thrown.getMessage() == null ? name : "undeclared or the machine's: " + thrown;
        }
    }
}
