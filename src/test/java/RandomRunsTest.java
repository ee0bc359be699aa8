import java.lang.reflect.InvocationTargetException;
import java.lang.reflect.Method;
import java.lang.reflect.Modifier;
import java.util.ArrayList;
import java.util.Arrays;
import java.util.List;
import java.util.Map;
import java.util.Random;
import java.util.TreeMap;

/** Runs of 512 random calls, always the same ones, on the program and on the model. */
public final class RandomRunsTest {
    private static final int RUNS = 1500;
    private static final int CALLS = 512;

    // How often a call is made, and what each of its arguments is: a station, a sledge, a letter,
    // a Road's length, a Capacity, a Weight, a Fee, a strenGth, Degrees, Hours, a Position,
    // a cOde, a character X.
    private static final String FACE = "3 addStation;12 setRoad ttR;3 addSledge tC;24 post ttWFG;20 load sl;8 unload sl;"
            + "10 loadBest s;20 send st;8 setTemperature D;16 advance H;1 stationCount;3 road tt;4 areConnected tt;"
            + "6 distance tt;6 distanceByStations tt;3 waitingIn t;1 sledgeCount;2 capacity s;3 loadOf s;3 isTravelling s;"
            + "3 stationOfSledge s;3 hoursLeft s;3 lettersOn s;5 letterOn sP;9 bestLoadFee s;9 bestLoadFeeByTrying s;"
            + "6 roundTrip s;6 roundTripByOrders s;1 letterCount;4 letterAt P;3 destinationOf l;3 weightOf l;3 feeOf l;"
            + "4 iceOf l;3 isOpen l;4 sledgeOf l;4 stationOfLetter l;6 hoursUntilOpen l;8 letterByFee P;4 codeOf l;"
            + "5 letterByCode O;1 time;1 temperature;3 coins;3 coinsByAccounts;2 deliveredTotal;3 meanIce;3 openShare;"
            + "4 isConsistent;5 renderSledge s;5 renderLetter l;8 outputAt P;1 type X;1 runScript;1 errorPosition;"
            + "1 failedCommand;8 undo;3 save;1 restore";

    private static final String SCRIPTS = "station;road tt R;sledge s C;post tt W F G;load s l;unload s l;best s;go st;"
            + "heat D;wait;wait H;best s;go st;go st;best s;load s l;post tt W F G;wait H;heat D";

    private static final Map<String, String> ROLES = new TreeMap<>();
    private static final Map<String, Method> METHODS = new TreeMap<>();
    private static final List<String> WEIGHTED = new ArrayList<>();

    private final Random random;
    private final int run;
    private final SledgePost program = new SledgePost();
    private final Model model = new Model();
    private final List<String> trace = new ArrayList<>();

    private RandomRunsTest(int run) {
        this.run = run;
        this.random = new Random(run);
    }

    public static void main(String[] args) {
        readFace();
        for (int run = 0; run < RUNS && Due.wrongSoFar() == 0; run++) {
            new RandomRunsTest(run).play();
        }
        Due.end();
    }

    private static void readFace() {
        for (String entry : FACE.split(";")) {
            String[] words = entry.split(" ");
            ROLES.put(words[1], words.length > 2 ? words[2] : "");
            for (int i = 0; i < Integer.parseInt(words[0]); i++) {
                WEIGHTED.add(words[1]);
            }
        }
        for (Method method : SledgePost.class.getDeclaredMethods()) {
            if (Modifier.isPublic(method.getModifiers())) {
                METHODS.put(method.getName(), method);
            }
        }
        Due.is("the calls that are made at random", METHODS.keySet(), ROLES.keySet());
    }

    private void play() {
        if (random.nextInt(8) > 0) {
            setUp();
        }
        while (trace.size() < CALLS && Due.wrongSoFar() == 0) {
            if (random.nextInt(60) == 0) {
                playScript();
            } else {
                call(WEIGHTED.get(random.nextInt(WEIGHTED.size())));
            }
        }
    }

    /** A connected post with letters of few different fees, so that there are ties. */
    private void setUp() {
        int stations = 3 + random.nextInt(5);
        for (int i = 0; i < stations; i++) {
            call("addStation");
        }
        for (int i = 1; i < stations; i++) {
            callWith("setRoad", random.nextInt(i), i, 1 + random.nextInt(6));
        }
        for (int i = 0; i < 2; i++) {
            callWith("addSledge", random.nextInt(2), 10 + random.nextInt(21));
        }
        for (int i = 0; i < 10; i++) {
            callWith("post", random.nextInt(2), 2 + random.nextInt(stations - 2), 1 + random.nextInt(9),
                    random.nextInt(4) * 10, 1 + random.nextInt(20));
        }
        if (random.nextBoolean()) {
            callWith("loadBest", 0);
            callWith("loadBest", 1);
        }
    }

    private void playScript() {
        String[] forms = SCRIPTS.split(";");
        StringBuilder text = new StringBuilder();
        int commands = 1 + random.nextInt(4);
        for (int i = 0; i < commands; i++) {
            text.append(i > 0 ? ";" : "").append(filled(forms[random.nextInt(forms.length)]));
        }
        int spoiled = random.nextInt(6);
        if (spoiled == 0) {
            text.setCharAt(random.nextInt(text.length()), "0 ;-azowlu19".charAt(random.nextInt(12)));
        } else if (spoiled == 1) {
            text.setLength(random.nextInt(text.length()));
        } else if (spoiled == 2) {
            text.insert(random.nextInt(text.length() + 1), "0 ;-azowlu19".charAt(random.nextInt(12)));
        }
        for (char sign : text.toString().toCharArray()) {
            callWith("type", sign);
        }
        call("runScript");
        call("errorPosition");
        call("failedCommand");
    }

    private String filled(String form) {
        StringBuilder text = new StringBuilder();
        String[] words = form.split(" ");
        text.append(words[0]);
        for (int i = 1; i < words.length; i++) {
            text.append(' ');
            for (char role : words[i].toCharArray()) {
                text.append(scriptNumber(role));
            }
        }
        return text.toString();
    }

    private String scriptNumber(char role) {
        int value = likely(role);
        if (role == 'D') {
            return Integer.toString(value);
        }
        String digits = Integer.toString(Math.max(0, value));
        if (role == 't' || role == 's') {
            return digits;
        }
        return random.nextInt(9) == 0 ? "0" + digits : digits;
    }

    private void call(String name) {
        String roles = ROLES.get(name);
        Object[] given = new Object[roles.length()];
        for (int i = 0; i < given.length; i++) {
            char role = roles.charAt(i);
            given[i] = role == 'X' ? (Object) (char) random.nextInt(130) : (Object) argument(role);
        }
        callWith(name, given);
    }

    private int argument(char role) {
        if (random.nextInt(80) == 0) {
            int[] edges = {Integer.MIN_VALUE, Integer.MAX_VALUE, -1, 97, 98, 99, 100, 1, 0, 31, 48, 49, 11, -31, 1 << 16};
            return edges[random.nextInt(edges.length)];
        }
        return likely(role);
    }

    private int likely(char role) {
        boolean odd = random.nextInt(20) == 0;
        switch (role) {
            case 't':
                return odd ? random.nextInt(10) - 1 : random.nextInt(Math.max(1, model.stationCount()));
            case 's':
                return odd ? random.nextInt(6) - 1 : random.nextInt(Math.max(1, model.sledgeCount()));
            case 'l':
                return odd || model.letterCount() == 0 ? random.nextInt(12) - 1
                        : model.letterAt(random.nextInt(model.letterCount()));
            case 'R':
                return random.nextInt(5) == 0 ? 0 : random.nextInt(odd ? 24 : 9);
            case 'C':
                return odd ? 3 + random.nextInt(30) : 5 + random.nextInt(26);
            case 'W':
                return odd ? random.nextInt(12) : 1 + random.nextInt(9);
            case 'F':
                return random.nextBoolean() ? random.nextInt(odd ? 103 : 100) : 20;
            case 'G':
                return odd ? random.nextInt(103) : 1 + random.nextInt(25);
            case 'D':
                return odd ? random.nextInt(45) - 32 : random.nextInt(5) - 2;
            case 'H':
                return odd ? random.nextInt(52) - 1 : 1 + random.nextInt(5);
            case 'P':
                return random.nextInt(14) - 1;
            default:
                return randomCode();
        }
    }

    private int randomCode() {
        if (model.letterCount() > 0 && random.nextInt(3) > 0) {
            int letter = model.letterAt(random.nextInt(model.letterCount()));
            return model.codeOf(letter) + (random.nextInt(4) == 0 ? random.nextInt(200) - 100 : 0);
        }
        return random.nextInt(80) * 97 + 1;
    }

    private void callWith(String name, Object... given) {
        if (trace.size() >= CALLS) {
            return;
        }
        String call = name + Arrays.toString(given);
        trace.add(call);
        Object due = answer(model, name, given);
        Object got = answer(program, name, given);
        int wrong = Due.wrongSoFar();
        Due.is("run " + run + " call " + trace.size() + " " + call, due, got);
        if (Due.wrongSoFar() > wrong) {
            System.out.println("all calls: " + trace);
        }
    }

    private static Object answer(Object target, String name, Object[] given) {
        try {
            return target.getClass().getMethod(name, METHODS.get(name).getParameterTypes()).invoke(target, given);
        } catch (InvocationTargetException e) {
            return e.getCause().getClass().getName();
        } catch (ReflectiveOperationException e) {
            throw new IllegalStateException(e);
        }
    }
}
