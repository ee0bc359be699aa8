import java.util.ArrayDeque;
import java.util.ArrayList;
import java.util.Comparator;
import java.util.Deque;
import java.util.List;
import java.util.Map;
import java.util.NoSuchElementException;
import java.util.TreeMap;
import java.util.TreeSet;
import java.util.regex.Matcher;
import java.util.regex.Pattern;

/**
 * The document once more, written for plainness and in other ways than the program: maps by id,
 * all paths, all sets, all orders, and a regular expression for scripts. RandomRunsTest compares.
 */
public final class Model {
    private static final String NUMBER = "[0-9]{1,3}";
    private static final String COMMAND = ("(?:station|road DD N|sledge D N|post DD N N N|load D N|unload D N"
            + "|best D|go DD|heat -?N|wait(?: N)?)").replace("D", "[0-9]").replace("N", NUMBER);
    private static final Pattern SCRIPT = Pattern.compile(COMMAND + "(?:;" + COMMAND + ")*");

    private static final class Item {
        int destination, weight, fee, strength, ice, sledge = -1, station;

        Item copy() {
            Item item = new Item();
            item.destination = destination;
            item.weight = weight;
            item.fee = fee;
            item.strength = strength;
            item.ice = ice;
            item.sledge = sledge;
            item.station = station;
            return item;
        }
    }

    private static final class World {
        int stations;
        TreeMap<Integer, Integer> roads = new TreeMap<>();
        List<int[]> sledges = new ArrayList<>(); // capacity, station, hours
        TreeMap<Integer, Item> items = new TreeMap<>();
        int nextId, time, degrees, fees, tolls, delivered;

        World copy() {
            World world = new World();
            world.stations = stations;
            world.roads.putAll(roads);
            sledges.forEach(sledge -> world.sledges.add(sledge.clone()));
            items.forEach((id, item) -> world.items.put(id, item.copy()));
            world.nextId = nextId;
            world.time = time;
            world.degrees = degrees;
            world.fees = fees;
            world.tolls = tolls;
            world.delivered = delivered;
            return world;
        }
    }

    private World world = new World();
    private World saved;
    private final Deque<World> undos = new ArrayDeque<>();
    private boolean inScript;
    private String script = "";
    private String output = "";
    private int errorPosition = -1;
    private int failedCommand = -1;

    private static void index(boolean good) {
        if (!good) {
            throw new IndexOutOfBoundsException();
        }
    }

    private static void argument(boolean good) {
        if (!good) {
            throw new IllegalArgumentException();
        }
    }

    private static void state(boolean good) {
        if (!good) {
            throw new IllegalStateException();
        }
    }

    private static void element(boolean good) {
        if (!good) {
            throw new NoSuchElementException();
        }
    }

    private static void supported(boolean good) {
        if (!good) {
            throw new UnsupportedOperationException();
        }
    }

    private void station(int station) {
        index(station >= 0 && station < world.stations);
    }

    private int[] sledge(int sledge) {
        index(sledge >= 0 && sledge < world.sledges.size());
        return world.sledges.get(sledge);
    }

    private Item item(int letter) {
        element(world.items.containsKey(letter));
        return world.items.get(letter);
    }

    private void keep() {
        if (!inScript) {
            undos.addLast(world.copy());
            if (undos.size() > 8) {
                undos.removeFirst();
            }
        }
    }

    public int addStation() {
        state(world.stations < 7);
        keep();
        return world.stations++;
    }

    private static int pair(int first, int second) {
        return Math.min(first, second) * 10 + Math.max(first, second);
    }

    public int setRoad(int first, int second, int length) {
        station(first);
        station(second);
        argument(first != second);
        argument(length >= 0 && length <= 20);
        keep();
        int before = road(first, second);
        world.roads.put(pair(first, second), length);
        return before;
    }

    public int addSledge(int station, int capacity) {
        station(station);
        argument(capacity >= 5 && capacity <= 30);
        state(world.sledges.size() < 3);
        keep();
        world.sledges.add(new int[] {capacity, station, 0});
        return world.sledges.size() - 1;
    }

    public int post(int from, int to, int weight, int fee, int strength) {
        station(from);
        station(to);
        argument(from != to && weight >= 1 && weight <= 9 && fee >= 0 && fee <= 99);
        argument(strength >= 1 && strength <= 99);
        state(world.items.size() < 12);
        keep();
        Item item = new Item();
        item.station = from;
        item.destination = to;
        item.weight = weight;
        item.fee = fee;
        item.strength = strength;
        item.ice = strength;
        world.items.put(world.nextId, item);
        return world.nextId++;
    }

    public int load(int sledge, int letter) {
        int[] target = sledge(sledge);
        Item item = item(letter);
        state(target[2] == 0);
        state(item.sledge < 0 && item.station == target[1]);
        supported(loadOf(sledge) + item.weight <= target[0]);
        keep();
        item(letter).sledge = sledge;
        return loadOf(sledge);
    }

    public int unload(int sledge, int letter) {
        int[] target = sledge(sledge);
        Item item = item(letter);
        state(target[2] == 0);
        state(item.sledge == sledge);
        keep();
        item.sledge = -1;
        item.station = target[1];
        return loadOf(sledge);
    }

    private List<Integer> on(int sledge) {
        List<Integer> ids = new ArrayList<>();
        world.items.forEach((id, item) -> {
            if (item.sledge == sledge) {
                ids.add(id);
            }
        });
        return ids;
    }

    private int sumOfFees(List<Integer> ids) {
        return ids.stream().mapToInt(id -> item(id).fee).sum();
    }

    private int sumOfWeights(List<Integer> ids) {
        return ids.stream().mapToInt(id -> item(id).weight).sum();
    }

    private boolean isBetter(List<Integer> one, List<Integer> other) {
        if (sumOfFees(one) != sumOfFees(other)) {
            return sumOfFees(one) > sumOfFees(other);
        }
        if (sumOfWeights(one) != sumOfWeights(other)) {
            return sumOfWeights(one) < sumOfWeights(other);
        }
        for (int id : world.items.keySet()) {
            if (one.contains(id) != other.contains(id)) {
                return one.contains(id);
            }
        }
        return false;
    }

    private List<Integer> best(int sledge) {
        int[] target = sledge(sledge);
        state(target[2] == 0);
        List<Integer> waiting = new ArrayList<>();
        world.items.forEach((id, item) -> {
            if (item.sledge < 0 && item.station == target[1]) {
                waiting.add(id);
            }
        });
        int room = target[0] - loadOf(sledge);
        List<Integer> best = new ArrayList<>();
        for (int bits = 0; bits < 1 << waiting.size(); bits++) {
            List<Integer> set = new ArrayList<>();
            for (int i = 0; i < waiting.size(); i++) {
                if ((bits >> i & 1) == 1) {
                    set.add(waiting.get(i));
                }
            }
            if (sumOfWeights(set) <= room && isBetter(set, best)) {
                best = set;
            }
        }
        return best;
    }

    public int loadBest(int sledge) {
        List<Integer> best = best(sledge);
        keep();
        best.forEach(id -> item(id).sledge = sledge);
        return best.size();
    }

    public int send(int sledge, int station) {
        index(sledge >= 0 && sledge < world.sledges.size());
        station(station);
        int[] target = sledge(sledge);
        state(target[2] == 0);
        state(target[1] != station);
        supported(areConnected(target[1], station));
        keep();
        int way = distance(target[1], station);
        target[1] = station;
        target[2] = way;
        world.tolls += way;
        return way;
    }

    public int setTemperature(int degrees) {
        argument(degrees >= -30 && degrees <= 10);
        keep();
        int before = world.degrees;
        world.degrees = degrees;
        return before;
    }

    public int advance(int hours) {
        argument(hours >= 1 && hours <= 48);
        keep();
        int before = world.delivered;
        for (int hour = 0; hour < hours; hour++) {
            hour();
        }
        return world.delivered - before;
    }

    private void hour() {
        world.time++;
        for (Item item : world.items.values()) {
            if (world.degrees > 0) {
                item.ice = Math.max(item.ice - world.degrees, 0);
            }
            if (world.degrees < 0 && item.ice > 0 && item.ice < item.strength) {
                item.ice++;
            }
        }
        for (int sledge = 0; sledge < world.sledges.size(); sledge++) {
            int[] target = world.sledges.get(sledge);
            if (target[2] > 0 && --target[2] == 0) {
                for (int id : on(sledge)) {
                    Item item = item(id);
                    if (item.destination == target[1]) {
                        world.fees += item.ice == 0 ? item.fee / 2 : item.fee;
                        world.delivered++;
                        world.items.remove(id);
                    }
                }
            }
        }
    }

    public int stationCount() {
        return world.stations;
    }

    public int road(int first, int second) {
        station(first);
        station(second);
        return world.roads.getOrDefault(pair(first, second), 0);
    }

    public boolean areConnected(int first, int second) {
        station(first);
        station(second);
        return shortest(first, second, 0) >= 0;
    }

    /** The shortest of all paths that visit no station twice, or -1. */
    private int shortest(int here, int goal, int visited) {
        if (here == goal) {
            return 0;
        }
        int best = -1;
        for (int next = 0; next < world.stations; next++) {
            int road = world.roads.getOrDefault(pair(here, next), 0);
            if (road > 0 && (visited >> next & 1) == 0) {
                int rest = shortest(next, goal, visited | 1 << here);
                if (rest >= 0 && (best < 0 || road + rest < best)) {
                    best = road + rest;
                }
            }
        }
        return best;
    }

    public int distance(int first, int second) {
        station(first);
        station(second);
        int length = shortest(first, second, 0);
        element(length >= 0);
        return length;
    }

    public int distanceByStations(int first, int second) {
        return distance(first, second);
    }

    public int waitingIn(int station) {
        station(station);
        return (int) world.items.values().stream().filter(i -> i.sledge < 0 && i.station == station).count();
    }

    public int sledgeCount() {
        return world.sledges.size();
    }

    public int capacity(int sledge) {
        return sledge(sledge)[0];
    }

    public int loadOf(int sledge) {
        sledge(sledge);
        return sumOfWeights(on(sledge));
    }

    public boolean isTravelling(int sledge) {
        return sledge(sledge)[2] > 0;
    }

    public int stationOfSledge(int sledge) {
        return sledge(sledge)[1];
    }

    public int hoursLeft(int sledge) {
        return sledge(sledge)[2];
    }

    public int lettersOn(int sledge) {
        sledge(sledge);
        return on(sledge).size();
    }

    public int letterOn(int sledge, int position) {
        sledge(sledge);
        element(position >= 0 && position < on(sledge).size());
        return on(sledge).get(position);
    }

    public int bestLoadFee(int sledge) {
        return sumOfFees(best(sledge));
    }

    public int bestLoadFeeByTrying(int sledge) {
        return sumOfFees(best(sledge));
    }

    public int roundTrip(int sledge) {
        int home = sledge(sledge)[1];
        TreeSet<Integer> goals = new TreeSet<>();
        on(sledge).forEach(id -> goals.add(item(id).destination));
        goals.forEach(goal -> element(areConnected(home, goal)));
        return trip(home, home, new ArrayList<>(goals));
    }

    private int trip(int home, int here, List<Integer> goals) {
        if (goals.isEmpty()) {
            return distance(here, home);
        }
        int best = Integer.MAX_VALUE;
        for (Integer goal : goals) {
            List<Integer> rest = new ArrayList<>(goals);
            rest.remove(goal);
            best = Math.min(best, distance(here, goal) + trip(home, goal, rest));
        }
        return best;
    }

    public int roundTripByOrders(int sledge) {
        return roundTrip(sledge);
    }

    public int letterCount() {
        return world.items.size();
    }

    public int letterAt(int position) {
        element(position >= 0 && position < world.items.size());
        return new ArrayList<>(world.items.keySet()).get(position);
    }

    public int destinationOf(int letter) {
        return item(letter).destination;
    }

    public int weightOf(int letter) {
        return item(letter).weight;
    }

    public int feeOf(int letter) {
        return item(letter).fee;
    }

    public int iceOf(int letter) {
        return item(letter).ice;
    }

    public boolean isOpen(int letter) {
        return item(letter).ice == 0;
    }

    public int sledgeOf(int letter) {
        element(item(letter).sledge >= 0);
        return item(letter).sledge;
    }

    public int stationOfLetter(int letter) {
        element(item(letter).sledge < 0);
        return item(letter).station;
    }

    public int hoursUntilOpen(int letter) {
        int ice = item(letter).ice;
        element(ice == 0 || world.degrees > 0);
        int hours = 0;
        while (ice > 0) {
            ice -= world.degrees;
            hours++;
        }
        return hours;
    }

    public int letterByFee(int rank) {
        element(rank >= 0 && rank < world.items.size());
        List<Map.Entry<Integer, Item>> sorted = new ArrayList<>(world.items.entrySet());
        sorted.sort(Comparator.comparingInt((Map.Entry<Integer, Item> e) -> -e.getValue().fee)
                .thenComparingInt(e -> e.getValue().weight).thenComparingInt(Map.Entry::getKey));
        return sorted.get(rank).getKey();
    }

    public int codeOf(int letter) {
        int n = 10 * letter + item(letter).destination;
        return 100 * n + 98 - 100 * n % 97;
    }

    public int letterByCode(int code) {
        argument(code >= 0 && code % 97 == 1);
        for (int id : world.items.keySet()) {
            if (codeOf(id) == code) {
                return id;
            }
        }
        throw new NoSuchElementException();
    }

    public int time() {
        return world.time;
    }

    public int temperature() {
        return world.degrees;
    }

    public int coins() {
        return world.fees - world.tolls;
    }

    public int coinsByAccounts() {
        return world.fees - world.tolls;
    }

    public int deliveredTotal() {
        return world.delivered;
    }

    public double meanIce() {
        if (world.items.isEmpty()) {
            throw new ArithmeticException();
        }
        return (double) world.items.values().stream().mapToInt(i -> i.ice).sum() / (double) world.items.size();
    }

    public float openShare() {
        if (world.items.isEmpty()) {
            throw new ArithmeticException();
        }
        return (float) world.items.values().stream().filter(i -> i.ice == 0).count() / (float) world.items.size();
    }

    public boolean isConsistent() {
        return true;
    }

    public int renderSledge(int sledge) {
        int[] target = sledge(sledge);
        output = sledge + ":" + loadOf(sledge) + "/" + target[0]
                + (target[2] > 0 ? ">" + target[1] + "+" + target[2] : "@" + target[1]);
        on(sledge).forEach(id -> output += "#" + id);
        return output.length();
    }

    public int renderLetter(int letter) {
        Item item = item(letter);
        output = letter + ">" + item.destination + " " + item.weight + "g" + item.fee + "c" + item.ice + "/"
                + item.strength;
        return output.length();
    }

    public char outputAt(int index) {
        index(index >= 0 && index < output.length());
        return output.charAt(index);
    }

    public int type(char character) {
        argument(character >= 32 && character <= 126);
        state(script.length() < 60);
        script += character;
        return script.length();
    }

    /** The first prefix that no script begins with ends behind the error position. */
    static int errorIn(String text) {
        for (int length = 1; length <= text.length(); length++) {
            Matcher matcher = SCRIPT.matcher(text.substring(0, length));
            if (!matcher.matches() && !matcher.hitEnd()) {
                return length - 1;
            }
        }
        return text.length();
    }

    public int runScript() {
        String text = script;
        script = "";
        if (!SCRIPT.matcher(text).matches()) {
            errorPosition = errorIn(text);
            throw new IllegalArgumentException();
        }
        String[] commands = text.split(";");
        World before = world.copy();
        for (int i = 0; i < commands.length; i++) {
            try {
                inScript = true;
                execute(commands[i]);
            } catch (RuntimeException e) {
                world = before;
                failedCommand = i;
                throw new IllegalStateException();
            } finally {
                inScript = false;
            }
        }
        World after = world;
        world = before;
        keep();
        world = after;
        return commands.length;
    }

    private void execute(String command) {
        String[] words = command.split(" ");
        int[] n = new int[words.length];
        for (int i = 1; i < words.length; i++) {
            n[i] = Integer.parseInt(words[i]);
        }
        int tens = words.length > 1 ? n[1] / 10 : 0;
        int ones = words.length > 1 ? n[1] % 10 : 0;
        switch (words[0]) {
            case "station" -> addStation();
            case "road" -> setRoad(tens, ones, n[2]);
            case "sledge" -> addSledge(n[1], n[2]);
            case "post" -> post(tens, ones, n[2], n[3], n[4]);
            case "load" -> load(n[1], n[2]);
            case "unload" -> unload(n[1], n[2]);
            case "best" -> loadBest(n[1]);
            case "go" -> send(tens, ones);
            case "heat" -> setTemperature(n[1]);
            default -> advance(words.length > 1 ? n[1] : 1);
        }
    }

    public int errorPosition() {
        element(errorPosition >= 0);
        return errorPosition;
    }

    public int failedCommand() {
        element(failedCommand >= 0);
        return failedCommand;
    }

    public int undo() {
        element(!undos.isEmpty());
        world = undos.removeLast();
        return undos.size();
    }

    public int save() {
        saved = world.copy();
        return world.items.size();
    }

    public int restore() {
        state(saved != null);
        world = saved.copy();
        undos.clear();
        return world.items.size();
    }
}
