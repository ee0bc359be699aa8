import java.lang.reflect.InvocationTargetException;
import java.lang.reflect.Method;
import java.util.ArrayList;
import java.util.Arrays;
import java.util.Comparator;
import java.util.List;
import java.util.Random;

/** Runs of 512 random calls, always the same ones, on the program and on the model. */
public final class RandomRunsTest {
    private static final int RUNS = 1200;
    private static final int CALLS = 512;

    private static final String[] COMMON = {
        "addStation", "setRoad", "setRoad", "setRoad", "addSledge", "post", "post", "post", "load", "load", "loadBest",
        "unload", "send", "send", "setTemperature", "advance", "undo", "save", "restore", "roundTrip",
        "roundTripByOrders", "bestLoadFee", "bestLoadFeeByTrying", "distance", "distanceByStations", "isConsistent",
        "hoursUntilOpen", "letterByFee", "codeOf", "renderSledge", "renderLetter", "sledgeOf", "stationOfLetter",
    };
    private static final String[] PIECES = {
        "station", "road 01 3", "road 12 20", "road 23 21", "sledge 0 9", "sledge 1 30", "post 01 4 40 3",
        "post 12 1 99 1", "post 20 9 0 99", "load 0 0", "load 1 2", "unload 0 0", "best 0", "best 1", "go 01", "go 12",
        "heat 3", "heat -30", "heat 11", "wait", "wait 5", "wait 48", "wait 049", "wait ", "post 1", "roaf", "s", "lo",
        "heat - 1", "go 0 1", "best 00", "station ", "road 01 1234", "unloa", "", ";", "~",
    };

    private final Random random;
    private final int run;
    private final SledgePost program = new SledgePost();
    private final Model model = new Model();
    private final List<String> trace = new ArrayList<>();
    private int calls;

    private RandomRunsTest(int run) {
        this.run = run;
        this.random = new Random(run);
    }

    public static void main(String[] args) {
        for (int run = 0; run < RUNS && Due.wrongSoFar() == 0; run++) {
            new RandomRunsTest(run).play();
        }
        Due.end();
    }

    private static List<Method> face() {
        List<Method> methods = new ArrayList<>();
        for (Method method : SledgePost.class.getDeclaredMethods()) {
            if (java.lang.reflect.Modifier.isPublic(method.getModifiers())) {
                methods.add(method);
            }
        }
        // Reflection promises no order, and each run must make the same calls every time.
        methods.sort(Comparator.comparing(Method::getName));
        return methods;
    }

    private static final List<Method> FACE = face();

    private static Method named(String name) {
        for (Method method : FACE) {
            if (method.getName().equals(name)) {
                return method;
            }
        }
        throw new IllegalArgumentException(name);
    }

    private void play() {
        setUp();
        while (calls < CALLS && Due.wrongSoFar() == 0) {
            int kind = random.nextInt(40);
            if (kind == 0) {
                playScript();
            } else if (kind < 8) {
                compare(FACE.get(random.nextInt(FACE.size())));
            } else {
                compare(named(COMMON[random.nextInt(COMMON.length)]));
            }
        }
    }

    /** Half of the runs begin with a post in which much is possible at once. */
    private void setUp() {
        if (random.nextBoolean()) {
            return;
        }
        int stations = 3 + random.nextInt(5);
        for (int i = 0; i < stations; i++) {
            compareWith(named("addStation"));
        }
        for (int i = 1; i < stations; i++) {
            compareWith(named("setRoad"), random.nextInt(i), i, 1 + random.nextInt(6));
        }
        for (int i = 0; i < 2; i++) {
            compareWith(named("addSledge"), random.nextInt(stations), 10 + random.nextInt(21));
        }
        for (int i = 0; i < 9; i++) {
            compareWith(named("post"), random.nextInt(2), 2 + random.nextInt(stations - 2), 1 + random.nextInt(9),
                    random.nextInt(5) * 10, 1 + random.nextInt(20));
        }
    }

    private void playScript() {
        StringBuilder text = new StringBuilder();
        int pieces = 1 + random.nextInt(4);
        for (int i = 0; i < pieces; i++) {
            text.append(i > 0 ? ";" : "").append(PIECES[random.nextInt(PIECES.length)]);
        }
        if (random.nextInt(4) == 0 && text.length() > 0) {
            text.setCharAt(random.nextInt(text.length()), "0 ;-az19".charAt(random.nextInt(8)));
        }
        for (char sign : text.toString().toCharArray()) {
            compareWith(named("type"), sign);
        }
        compareWith(named("runScript"));
        compareWith(named("errorPosition"));
        compareWith(named("failedCommand"));
    }

    private void compare(Method method) {
        Class<?>[] types = method.getParameterTypes();
        Object[] given = new Object[types.length];
        for (int i = 0; i < types.length; i++) {
            given[i] = types[i] == char.class ? (Object) (char) random.nextInt(130) : (Object) number(method, i);
        }
        compareWith(method, given);
    }

    private int number(Method method, int parameter) {
        if (random.nextInt(60) == 0) {
            int[] edges = {Integer.MIN_VALUE, Integer.MAX_VALUE, -1, 97, 98, 99, 100, 1, 0, 31, 48, 49, 11, -31};
            return edges[random.nextInt(edges.length)];
        }
        String name = method.getName();
        if (name.equals("setTemperature")) {
            return random.nextInt(3) == 0 ? random.nextInt(44) - 32 : random.nextInt(5) - 1;
        }
        if (name.equals("advance")) {
            return random.nextInt(5) == 0 ? random.nextInt(51) : 1 + random.nextInt(6);
        }
        if (name.equals("post")) {
            int[] most = {7, 7, 10, 100, 100};
            return parameter == 3 && random.nextBoolean() ? 20 : random.nextInt(most[parameter] + 1);
        }
        if (name.equals("setRoad") && parameter == 2) {
            return random.nextInt(4) == 0 ? 0 : random.nextInt(22);
        }
        if (name.equals("addSledge") && parameter == 1) {
            return 4 + random.nextInt(28);
        }
        if (name.equals("outputAt")) {
            return random.nextInt(25) - 1;
        }
        if (name.equals("letterByCode")) {
            return randomCode();
        }
        boolean stations = name.contains("istance") || name.equals("setRoad") || name.equals("road");
        boolean sledges = named(name).getName().contains("ledge") || name.contains("oad") || name.equals("send")
                || name.contains("roundTrip") || name.equals("letterOn") || name.equals("lettersOn");
        if (!stations && sledges && parameter == 0) {
            return random.nextInt(25) == 0 ? random.nextInt(6) - 1 : random.nextInt(2);
        }
        if ((name.equals("load") || name.equals("unload") || name.endsWith("Of") || name.contains("Letter")
                || name.contains("pen")) && model.letterCount() > 0 && random.nextInt(10) > 0) {
            return model.letterAt(random.nextInt(model.letterCount()));
        }
        return random.nextInt(9) - 1;
    }

    private int randomCode() {
        if (model.letterCount() > 0 && random.nextBoolean()) {
            int letter = model.letterAt(random.nextInt(model.letterCount()));
            return model.codeOf(letter) + (random.nextInt(4) == 0 ? random.nextInt(200) - 100 : 0);
        }
        return random.nextInt(40) * 97 + 1;
    }

    private void compareWith(Method method, Object... given) {
        if (calls >= CALLS) {
            return;
        }
        calls++;
        String call = method.getName() + Arrays.toString(given);
        trace.add(call);
        Object due = answer(model, method, given);
        Object got = answer(program, method, given);
        int wrong = Due.wrongSoFar();
        Due.is("run " + run + " call " + calls + " " + call, due, got);
        if (Due.wrongSoFar() > wrong) {
            System.out.println("calls before: " + trace);
        }
    }

    private static Object answer(Object target, Method method, Object[] given) {
        try {
            return target.getClass().getMethod(method.getName(), method.getParameterTypes()).invoke(target, given);
        } catch (InvocationTargetException e) {
            return e.getCause().getClass().getName();
        } catch (ReflectiveOperationException e) {
            throw new IllegalStateException(e);
        }
    }
}
