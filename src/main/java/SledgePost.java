import java.util.NoSuchElementException;

/** A winter post whose sealed letters travel on sledges; DOC.md says what each call promises. */
public final class SledgePost {

    private static final int MOST_STATIONS = 7;
    private static final int MOST_SLEDGES = 3;
    private static final int MOST_LETTERS = 12;
    private static final int LONGEST_ROAD = 20;
    private static final int LEAST_CAPACITY = 5;
    private static final int MOST_CAPACITY = 30;
    private static final int MOST_WEIGHT = 9;
    private static final int MOST_FEE = 99;
    private static final int MOST_STRENGTH = 99;
    private static final int COLDEST = -30;
    private static final int WARMEST = 10;
    private static final int MOST_HOURS = 48;
    private static final int MOST_CHANGES = 8;
    private static final int MOST_CHARACTERS = 60;
    private static final char FIRST_CHARACTER = 32;
    private static final char LAST_CHARACTER = 126;
    private static final int CODE_DIVISOR = 97;
    private static final int NONE = -1;

    // Longer than every real way or trip, and small enough that sums of it stay far from overflow.
    private static final int FAR = 1000000;

    private static final Command[] COMMANDS = Command.values();

    private final Desk desk = new Desk();
    private final State now = desk.now;
    private final State snapshot = new State();
    private boolean hasSnapshot;

    // The earlier states stand in a ring, so that a new one takes the room of the oldest.
    private final State[] earlier = new State[MOST_CHANGES];
    private int oldest;
    private int earlierCount;

    private final ScriptReader reader = new ScriptReader();
    private final State beforeScript = new State();
    private int lastErrorPosition = NONE;
    private int lastFailedCommand = NONE;

    private final StringBuilder output = new StringBuilder();

    public SledgePost() {
        for (int i = 0; i < MOST_CHANGES; i++) {
            earlier[i] = new State();
        }
    }

    // ---- changes ----

    public int addStation() throws IllegalStateException {
        demandFine(desk.judgeStation());
        remember(now);
        return desk.makeStation();
    }

    public int setRoad(int first, int second, int length)
            throws IndexOutOfBoundsException, IllegalArgumentException {
        demandFine(desk.judgeRoad(first, second, length));
        remember(now);
        return desk.makeRoad(first, second, length);
    }

    public int addSledge(int station, int capacity)
            throws IndexOutOfBoundsException, IllegalArgumentException, IllegalStateException {
        demandFine(desk.judgeSledge(station, capacity));
        remember(now);
        return desk.makeSledge(station, capacity);
    }

    public int post(int from, int to, int weight, int fee, int strength)
            throws IndexOutOfBoundsException, IllegalArgumentException, IllegalStateException {
        demandFine(desk.judgeLetter(from, to, weight, fee, strength));
        remember(now);
        return desk.makeLetter(from, to, weight, fee, strength);
    }

    public int load(int sledge, int letter)
            throws IndexOutOfBoundsException, NoSuchElementException, IllegalStateException,
            UnsupportedOperationException {
        demandFine(desk.judgePutOn(sledge, letter));
        remember(now);
        return desk.putOn(sledge, letter);
    }

    public int unload(int sledge, int letter)
            throws IndexOutOfBoundsException, NoSuchElementException, IllegalStateException {
        demandFine(desk.judgeTakeOff(sledge, letter));
        remember(now);
        return desk.takeOff(sledge, letter);
    }

    public int loadBest(int sledge) throws IndexOutOfBoundsException, IllegalStateException {
        demandFine(desk.judgeBest(sledge));
        remember(now);
        return desk.putBestOn(sledge);
    }

    public int send(int sledge, int station)
            throws IndexOutOfBoundsException, IllegalStateException, UnsupportedOperationException {
        demandFine(desk.judgeGo(sledge, station));
        remember(now);
        return desk.go(sledge, station);
    }

    public int setTemperature(int degrees) throws IllegalArgumentException {
        demandFine(desk.judgeDegrees(degrees));
        remember(now);
        return desk.changeDegrees(degrees);
    }

    public int advance(int hours) throws IllegalArgumentException {
        demandFine(desk.judgeHours(hours));
        remember(now);
        return desk.passHours(hours);
    }

    // ---- stations ----

    public int stationCount() {
        return now.stationCount;
    }

    public int road(int first, int second) throws IndexOutOfBoundsException {
        needStation(first);
        needStation(second);
        return now.roads[cell(first, second)];
    }

    public boolean areConnected(int first, int second) throws IndexOutOfBoundsException {
        needStation(first);
        needStation(second);
        return desk.distances.nearestWay(now, first, second) < FAR;
    }

    public int distance(int first, int second)
            throws IndexOutOfBoundsException, NoSuchElementException {
        needStation(first);
        needStation(second);
        return needWay(desk.distances.nearestWay(now, first, second));
    }

    public int distanceByStations(int first, int second)
            throws IndexOutOfBoundsException, NoSuchElementException {
        needStation(first);
        needStation(second);
        desk.distances.allowMoreStations(now);
        return needWay(desk.distances.byStations[cell(first, second)]);
    }

    public int waitingIn(int station) throws IndexOutOfBoundsException {
        needStation(station);
        return now.countIn(station);
    }

    // ---- sledges ----

    public int sledgeCount() {
        return now.sledgeCount;
    }

    public int capacity(int sledge) throws IndexOutOfBoundsException {
        return needSledge(sledge).capacity;
    }

    public int loadOf(int sledge) throws IndexOutOfBoundsException {
        needSledge(sledge);
        return now.weightOn(sledge);
    }

    public boolean isTravelling(int sledge) throws IndexOutOfBoundsException {
        return needSledge(sledge).travels();
    }

    public int stationOfSledge(int sledge) throws IndexOutOfBoundsException {
        return needSledge(sledge).station;
    }

    public int hoursLeft(int sledge) throws IndexOutOfBoundsException {
        return needSledge(sledge).hours;
    }

    public int lettersOn(int sledge) throws IndexOutOfBoundsException {
        needSledge(sledge);
        return now.countOn(sledge);
    }

    public int letterOn(int sledge, int position)
            throws IndexOutOfBoundsException, NoSuchElementException {
        needSledge(sledge);
        return idOf(now.letterAtPlace(sledge, position));
    }

    public int bestLoadFee(int sledge) throws IndexOutOfBoundsException, IllegalStateException {
        demandFine(desk.judgeBest(sledge));
        return desk.bestFees(sledge);
    }

    public int bestLoadFeeByTrying(int sledge)
            throws IndexOutOfBoundsException, IllegalStateException {
        demandFine(desk.judgeBest(sledge));
        return desk.bestFeesByTrying(sledge);
    }

    public int roundTrip(int sledge) throws IndexOutOfBoundsException, NoSuchElementException {
        demandFine(desk.judgeTrip(sledge));
        return desk.tripBySets(sledge);
    }

    public int roundTripByOrders(int sledge)
            throws IndexOutOfBoundsException, NoSuchElementException {
        demandFine(desk.judgeTrip(sledge));
        return desk.tripByOrders(sledge);
    }

    // ---- letters ----

    public int letterCount() {
        return now.letterCount;
    }

    public int letterAt(int position) throws NoSuchElementException {
        if (position < 0 || position >= now.letterCount) {
            throw new NoSuchElementException("no such position");
        }
        return now.letters[position].id;
    }

    public int destinationOf(int letter) throws NoSuchElementException {
        return needLetter(letter).destination;
    }

    public int weightOf(int letter) throws NoSuchElementException {
        return needLetter(letter).weight;
    }

    public int feeOf(int letter) throws NoSuchElementException {
        return needLetter(letter).fee;
    }

    public int iceOf(int letter) throws NoSuchElementException {
        return needLetter(letter).ice;
    }

    public boolean isOpen(int letter) throws NoSuchElementException {
        return needLetter(letter).thawed();
    }

    public int sledgeOf(int letter) throws NoSuchElementException {
        Letter found = needLetter(letter);
        if (found.waits()) {
            throw new NoSuchElementException("the letter waits in a station");
        }
        return found.sledge;
    }

    public int stationOfLetter(int letter) throws NoSuchElementException {
        Letter found = needLetter(letter);
        if (!found.waits()) {
            throw new NoSuchElementException("the letter is on a sledge");
        }
        return found.station;
    }

    public int hoursUntilOpen(int letter) throws NoSuchElementException {
        Letter found = needLetter(letter);
        if (found.thawed()) {
            return 0;
        }
        if (now.degrees <= 0) {
            throw new NoSuchElementException("the seal does not thaw");
        }
        return (found.ice + now.degrees - 1) / now.degrees;
    }

    public int letterByFee(int rank) throws NoSuchElementException {
        return idOf(now.letterOfRank(rank));
    }

    public int codeOf(int letter) throws NoSuchElementException {
        return needLetter(letter).code();
    }

    public int letterByCode(int code) throws IllegalArgumentException, NoSuchElementException {
        if (!isValidCode(code)) {
            throw new IllegalArgumentException("not a valid code");
        }
        return idOf(now.letterOfCode(code));
    }

    // ---- totals and checks ----

    public int time() {
        return now.hours;
    }

    public int temperature() {
        return now.degrees;
    }

    public int coins() {
        return now.purse;
    }

    public int coinsByAccounts() {
        return now.feesGot - now.tollsPaid;
    }

    public int deliveredTotal() {
        return now.delivered;
    }

    public double meanIce() throws ArithmeticException {
        if (now.letterCount == 0) {
            throw new ArithmeticException("no letters in the post");
        }
        return (double) now.iceOfAll() / (double) now.letterCount;
    }

    public float openShare() throws ArithmeticException {
        if (now.letterCount == 0) {
            throw new ArithmeticException("no letters in the post");
        }
        return (float) now.countThawed() / (float) now.letterCount;
    }

    public boolean isConsistent() {
        return desk.distancesAgree()
                && desk.sledgesAgree()
                && desk.codesAreValid()
                && coins() == coinsByAccounts();
    }

    // ---- output and scripts ----

    public int renderSledge(int sledge) throws IndexOutOfBoundsException {
        Sledge found = needSledge(sledge);
        output.setLength(0);
        output.append(sledge).append(':').append(now.weightOn(sledge));
        output.append('/').append(found.capacity);
        output.append(found.travels() ? '>' : '@').append(found.station);
        if (found.travels()) {
            output.append('+').append(found.hours);
        }
        for (int i = 0; i < now.letterCount; i++) {
            if (now.letters[i].sledge == sledge) {
                output.append('#').append(now.letters[i].id);
            }
        }
        return output.length();
    }

    public int renderLetter(int letter) throws NoSuchElementException {
        Letter found = needLetter(letter);
        output.setLength(0);
        output.append(found.id).append('>').append(found.destination);
        output.append(' ').append(found.weight);
        output.append('g').append(found.fee);
        output.append('c').append(found.ice);
        output.append('/').append(found.strength);
        return output.length();
    }

    public char outputAt(int index) throws IndexOutOfBoundsException {
        if (index < 0 || index >= output.length()) {
            throw new IndexOutOfBoundsException("no such index in the output text");
        }
        return output.charAt(index);
    }

    public int type(char character) throws IllegalArgumentException, IllegalStateException {
        if (character < FIRST_CHARACTER || character > LAST_CHARACTER) {
            throw new IllegalArgumentException("not a character of a script");
        }
        if (reader.text.length() >= MOST_CHARACTERS) {
            throw new IllegalStateException("the script buffer is full");
        }
        reader.text.append(character);
        return reader.text.length();
    }

    public int runScript() throws IllegalArgumentException, IllegalStateException {
        int error = reader.findError();
        if (error != NONE) {
            reader.text.setLength(0);
            lastErrorPosition = error;
            throw new IllegalArgumentException("the script does not have the required form");
        }
        int commands = reader.countCommands();
        beforeScript.copyFrom(now);
        int failed = runCommands(commands);
        reader.text.setLength(0);
        if (failed != NONE) {
            now.copyFrom(beforeScript);
            lastFailedCommand = failed;
            throw new IllegalStateException("a command of the script failed");
        }
        remember(beforeScript);
        return commands;
    }

    public int errorPosition() throws NoSuchElementException {
        if (lastErrorPosition == NONE) {
            throw new NoSuchElementException("no script had a wrong form");
        }
        return lastErrorPosition;
    }

    public int failedCommand() throws NoSuchElementException {
        if (lastFailedCommand == NONE) {
            throw new NoSuchElementException("no script had a failed command");
        }
        return lastFailedCommand;
    }

    public int undo() throws NoSuchElementException {
        if (earlierCount == 0) {
            throw new NoSuchElementException("nothing to undo");
        }
        earlierCount--;
        now.copyFrom(earlier[(oldest + earlierCount) % MOST_CHANGES]);
        return earlierCount;
    }

    public int save() {
        snapshot.copyFrom(now);
        hasSnapshot = true;
        return now.letterCount;
    }

    public int restore() throws IllegalStateException {
        if (!hasSnapshot) {
            throw new IllegalStateException("no snapshot");
        }
        now.copyFrom(snapshot);
        earlierCount = 0;
        return now.letterCount;
    }

    // ---- help for the calls above ----

    private static void demandFine(Verdict verdict) {
        if (verdict == Verdict.NO_INDEX) {
            throw new IndexOutOfBoundsException("no such station or sledge");
        }
        if (verdict == Verdict.BAD_ARGUMENT) {
            throw new IllegalArgumentException("an argument is outside its limits");
        }
        if (verdict == Verdict.NO_ELEMENT) {
            throw new NoSuchElementException("no such letter or way");
        }
        if (verdict == Verdict.BAD_STATE) {
            throw new IllegalStateException("not possible as things stand");
        }
        if (verdict == Verdict.UNSUPPORTED) {
            throw new UnsupportedOperationException("capacity exceeded, or no way");
        }
    }

    private void needStation(int station) {
        if (!now.hasStation(station)) {
            throw new IndexOutOfBoundsException("no such station");
        }
    }

    private Sledge needSledge(int sledge) {
        if (!now.hasSledge(sledge)) {
            throw new IndexOutOfBoundsException("no such sledge");
        }
        return now.sledges[sledge];
    }

    private Letter needLetter(int id) {
        Letter found = now.findLetter(id);
        if (found == null) {
            throw new NoSuchElementException("no such letter in the post");
        }
        return found;
    }

    private static int idOf(Letter found) {
        if (found == null) {
            throw new NoSuchElementException("no such letter");
        }
        return found.id;
    }

    private static int needWay(int length) {
        if (length >= FAR) {
            throw new NoSuchElementException("the stations are not connected");
        }
        return length;
    }

    private void remember(State state) {
        if (earlierCount == MOST_CHANGES) {
            oldest = (oldest + 1) % MOST_CHANGES;
            earlierCount--;
        }
        earlier[(oldest + earlierCount) % MOST_CHANGES].copyFrom(state);
        earlierCount++;
    }

    /** Returns the index of the command that failed, or NONE. */
    private int runCommands(int commands) {
        int start = 0;
        for (int index = 0; index < commands; index++) {
            reader.readCommand(start);
            if (desk.judge(reader.command, reader.numbers) != Verdict.FINE) {
                return index;
            }
            desk.carryOut(reader.command, reader.numbers);
            start = reader.at + 1;
        }
        return NONE;
    }

    private static int cell(int first, int second) {
        return first * MOST_STATIONS + second;
    }

    private static boolean isBetween(int value, int least, int most) {
        return value >= least && value <= most;
    }

    private static boolean isValidCode(int code) {
        return code >= 0 && code % CODE_DIVISOR == 1;
    }

    /** What stands against a call; asked before anything changes, so that no refused call leaves a trace. */
    private enum Verdict {
        FINE, NO_INDEX, BAD_ARGUMENT, NO_ELEMENT, BAD_STATE, UNSUPPORTED
    }

    /**
     * The commands of a script. In a form, # is a digit, % a number, ~ a number that may have a
     * minus, and ? a space and a number that may be missing; each other sign stands for itself.
     */
    private enum Command {
        STATION("station"),
        ROAD("road ## %"),
        SLEDGE("sledge # %"),
        POST("post ## % % %"),
        LOAD("load # %"),
        UNLOAD("unload # %"),
        BEST("best #"),
        GO("go ##"),
        HEAT("heat ~"),
        WAIT("wait?");

        final String form;

        Command(String form) {
            this.form = form;
        }
    }

    private static final class Letter {
        int id;
        int destination;
        int weight;
        int fee;
        int strength;
        int ice;
        // NONE if the letter waits; only then its station counts.
        int sledge;
        int station;

        void copyFrom(Letter other) {
            id = other.id;
            destination = other.destination;
            weight = other.weight;
            fee = other.fee;
            strength = other.strength;
            ice = other.ice;
            sledge = other.sledge;
            station = other.station;
        }

        boolean waits() {
            return sledge == NONE;
        }

        boolean waitsAt(int place) {
            return waits() && station == place;
        }

        boolean thawed() {
            return ice == 0;
        }

        void feel(int degrees) {
            if (degrees > 0) {
                ice = Math.max(0, ice - degrees);
            } else if (degrees < 0 && !thawed()) {
                ice = Math.min(strength, ice + 1);
            }
        }

        int code() {
            int number = 100 * (10 * id + destination);
            return number + 98 - number % CODE_DIVISOR;
        }

        boolean ranksBefore(Letter other) {
            if (fee != other.fee) {
                return fee > other.fee;
            }
            if (weight != other.weight) {
                return weight < other.weight;
            }
            return id < other.id;
        }
    }

    private static final class Sledge {
        int capacity;
        int station;
        int hours;

        void copyFrom(Sledge other) {
            capacity = other.capacity;
            station = other.station;
            hours = other.hours;
        }

        boolean travels() {
            return hours > 0;
        }
    }

    /** All that undo and the snapshot cover; the letters stand in the order of their ids. */
    private static final class State {
        int stationCount;
        final int[] roads = new int[MOST_STATIONS * MOST_STATIONS];
        int sledgeCount;
        final Sledge[] sledges = new Sledge[MOST_SLEDGES];
        int letterCount;
        final Letter[] letters = new Letter[MOST_LETTERS];
        int nextId;
        int hours;
        int degrees;
        int purse;
        int feesGot;
        int tollsPaid;
        int delivered;

        State() {
            for (int i = 0; i < MOST_SLEDGES; i++) {
                sledges[i] = new Sledge();
            }
            for (int i = 0; i < MOST_LETTERS; i++) {
                letters[i] = new Letter();
            }
        }

        void copyFrom(State other) {
            stationCount = other.stationCount;
            System.arraycopy(other.roads, 0, roads, 0, roads.length);
            sledgeCount = other.sledgeCount;
            for (int i = 0; i < sledgeCount; i++) {
                sledges[i].copyFrom(other.sledges[i]);
            }
            letterCount = other.letterCount;
            for (int i = 0; i < letterCount; i++) {
                letters[i].copyFrom(other.letters[i]);
            }
            nextId = other.nextId;
            hours = other.hours;
            degrees = other.degrees;
            purse = other.purse;
            feesGot = other.feesGot;
            tollsPaid = other.tollsPaid;
            delivered = other.delivered;
        }

        boolean hasStation(int station) {
            return station >= 0 && station < stationCount;
        }

        boolean hasSledge(int sledge) {
            return sledge >= 0 && sledge < sledgeCount;
        }

        /** Returns null if no letter in the post has the id. */
        Letter findLetter(int id) {
            for (int i = 0; i < letterCount; i++) {
                if (letters[i].id == id) {
                    return letters[i];
                }
            }
            return null;
        }

        /** Returns null if no letter in the post has the code. */
        Letter letterOfCode(int code) {
            for (int i = 0; i < letterCount; i++) {
                if (letters[i].code() == code) {
                    return letters[i];
                }
            }
            return null;
        }

        /** Returns null if there is no such rank. */
        Letter letterOfRank(int rank) {
            for (int i = 0; i < letterCount; i++) {
                if (countBefore(letters[i]) == rank) {
                    return letters[i];
                }
            }
            return null;
        }

        private int countBefore(Letter letter) {
            int count = 0;
            for (int i = 0; i < letterCount; i++) {
                if (letters[i].ranksBefore(letter)) {
                    count++;
                }
            }
            return count;
        }

        /** Returns null if there is no such place on the sledge. */
        Letter letterAtPlace(int sledge, int place) {
            int passed = 0;
            for (int i = 0; i < letterCount; i++) {
                if (letters[i].sledge == sledge) {
                    if (passed == place) {
                        return letters[i];
                    }
                    passed++;
                }
            }
            return null;
        }

        int countOn(int sledge) {
            int count = 0;
            for (int i = 0; i < letterCount; i++) {
                if (letters[i].sledge == sledge) {
                    count++;
                }
            }
            return count;
        }

        int weightOn(int sledge) {
            int sum = 0;
            for (int i = 0; i < letterCount; i++) {
                if (letters[i].sledge == sledge) {
                    sum += letters[i].weight;
                }
            }
            return sum;
        }

        int roomOn(int sledge) {
            return sledges[sledge].capacity - weightOn(sledge);
        }

        int countIn(int station) {
            int count = 0;
            for (int i = 0; i < letterCount; i++) {
                if (letters[i].waitsAt(station)) {
                    count++;
                }
            }
            return count;
        }

        int countThawed() {
            int count = 0;
            for (int i = 0; i < letterCount; i++) {
                if (letters[i].thawed()) {
                    count++;
                }
            }
            return count;
        }

        int iceOfAll() {
            int sum = 0;
            for (int i = 0; i < letterCount; i++) {
                sum += letters[i].ice;
            }
            return sum;
        }

        void removeLetter(int position) {
            Letter removed = letters[position];
            for (int i = position + 1; i < letterCount; i++) {
                letters[i - 1] = letters[i];
            }
            letterCount--;
            // Kept behind the others, so that the next letter needs no new object.
            letters[letterCount] = removed;
        }
    }

    /** The distances of the stations, found in two ways; FAR where there is no way. */
    private static final class Distances {
        final int[] byNearest = new int[MOST_STATIONS * MOST_STATIONS];
        final int[] byStations = new int[MOST_STATIONS * MOST_STATIONS];

        int nearestWay(State state, int first, int second) {
            goOnFromNearest(state, first);
            return byNearest[cell(first, second)];
        }

        void goOnFromNearestOfAll(State state) {
            for (int start = 0; start < state.stationCount; start++) {
                goOnFromNearest(state, start);
            }
        }

        private void goOnFromNearest(State state, int start) {
            for (int station = 0; station < state.stationCount; station++) {
                byNearest[cell(start, station)] = station == start ? 0 : FAR;
            }
            int settled = 0;
            for (int round = 0; round < state.stationCount; round++) {
                int here = nearestUnsettled(state, start, settled);
                if (here == NONE) {
                    return;
                }
                settled |= 1 << here;
                takeRoadsFrom(state, start, here);
            }
        }

        private int nearestUnsettled(State state, int start, int settled) {
            int nearest = NONE;
            int least = FAR;
            for (int station = 0; station < state.stationCount; station++) {
                int length = byNearest[cell(start, station)];
                if ((settled >> station & 1) == 0 && length < least) {
                    nearest = station;
                    least = length;
                }
            }
            return nearest;
        }

        private void takeRoadsFrom(State state, int start, int here) {
            int travelled = byNearest[cell(start, here)];
            for (int next = 0; next < state.stationCount; next++) {
                int road = state.roads[cell(here, next)];
                int target = cell(start, next);
                if (road > 0 && travelled + road < byNearest[target]) {
                    byNearest[target] = travelled + road;
                }
            }
        }

        void allowMoreStations(State state) {
            startWithRoads(state);
            for (int middle = 0; middle < state.stationCount; middle++) {
                allowStation(state.stationCount, middle);
            }
        }

        private void startWithRoads(State state) {
            for (int first = 0; first < state.stationCount; first++) {
                for (int second = 0; second < state.stationCount; second++) {
                    int road = state.roads[cell(first, second)];
                    int apart = road > 0 ? road : FAR;
                    byStations[cell(first, second)] = first == second ? 0 : apart;
                }
            }
        }

        private void allowStation(int stationCount, int middle) {
            for (int first = 0; first < stationCount; first++) {
                for (int second = 0; second < stationCount; second++) {
                    int over = byStations[cell(first, middle)] + byStations[cell(middle, second)];
                    int target = cell(first, second);
                    byStations[target] = Math.min(byStations[target], over);
                }
            }
        }
    }

    /**
     * The best load. A set of letters is ranked by one number: its fees, less its weights, and last
     * a bit for each letter, the highest for the lowest id; the ranks of the letters just add up.
     */
    private static final class BestLoad {
        private static final int RANK_OF_WEIGHT = 1 << MOST_LETTERS;
        private static final int RANK_OF_FEE = RANK_OF_WEIGHT * 128;

        // For each weight, the highest rank of a set that weighs no more.
        private final int[] table = new int[MOST_CAPACITY + 1];

        /** Returns the bits of the letters in the best load. */
        int bestSet(State state, int sledge) {
            int room = state.roomOn(sledge);
            int station = state.sledges[sledge].station;
            if (!isBetween(room, 0, MOST_CAPACITY)) {
                return 0;
            }
            for (int weight = 0; weight <= room; weight++) {
                table[weight] = 0;
            }
            for (int position = 0; position < state.letterCount; position++) {
                if (state.letters[position].waitsAt(station)) {
                    offer(state.letters[position], position, room);
                }
            }
            return table[room] & (RANK_OF_WEIGHT - 1);
        }

        private void offer(Letter letter, int position, int room) {
            int rank = letter.fee * RANK_OF_FEE - letter.weight * RANK_OF_WEIGHT + bit(position);
            // From the top down, so that no set takes the letter twice.
            for (int weight = room; weight >= letter.weight; weight--) {
                table[weight] = Math.max(table[weight], table[weight - letter.weight] + rank);
            }
        }

        static boolean contains(int set, int position) {
            return (set & bit(position)) != 0;
        }

        private static int bit(int position) {
            return 1 << (MOST_LETTERS - 1 - position);
        }

        static int feesOfSet(State state, int set) {
            int sum = 0;
            for (int position = 0; position < state.letterCount; position++) {
                if (contains(set, position)) {
                    sum += state.letters[position].fee;
                }
            }
            return sum;
        }

        static int feesByTrying(State state, int sledge) {
            return tryFrom(state, state.sledges[sledge].station, 0, state.roomOn(sledge));
        }

        private static int tryFrom(State state, int station, int position, int room) {
            if (position >= state.letterCount) {
                return 0;
            }
            Letter letter = state.letters[position];
            int without = tryFrom(state, station, position + 1, room);
            if (!letter.waitsAt(station) || letter.weight > room) {
                return without;
            }
            int rest = tryFrom(state, station, position + 1, room - letter.weight);
            return Math.max(without, letter.fee + rest);
        }
    }

    /** The shortest round trips; sets of stations are numbers with a bit for each station. */
    private static final class RoundTrips {
        private static final int SETS = 1 << MOST_STATIONS;

        // For each set and each station in it: the shortest way from home through the set to it.
        private final int[] ways = new int[SETS * MOST_STATIONS];

        int shortestBySets(int[] distances, int home, int goals) {
            if (goals == 0) {
                return 0;
            }
            for (int set = 1; set <= goals && set < SETS; set++) {
                if ((set & ~goals) == 0) {
                    fillSet(distances, home, set);
                }
            }
            int best = FAR;
            for (int last = 0; last < MOST_STATIONS; last++) {
                if (has(goals, last)) {
                    best = Math.min(best, ways[cell(goals, last)] + distances[cell(last, home)]);
                }
            }
            return best;
        }

        private void fillSet(int[] distances, int home, int set) {
            for (int last = 0; last < MOST_STATIONS; last++) {
                if (has(set, last)) {
                    ways[cell(set, last)] = wayTo(distances, home, set & ~(1 << last), last);
                }
            }
        }

        private int wayTo(int[] distances, int home, int others, int last) {
            if (others == 0) {
                return distances[cell(home, last)];
            }
            int best = FAR;
            for (int before = 0; before < MOST_STATIONS; before++) {
                if (has(others, before)) {
                    int way = ways[cell(others, before)] + distances[cell(before, last)];
                    best = Math.min(best, way);
                }
            }
            return best;
        }

        private static boolean has(int set, int station) {
            return (set >> station & 1) != 0;
        }

        static int shortestByOrders(int[] distances, int home, int goals) {
            return restOfTrip(distances, home, home, goals);
        }

        // Each level takes one station out of the goals, so it goes as deep as there are goals.
        private static int restOfTrip(int[] distances, int home, int here, int goals) {
            if (goals == 0) {
                return distances[cell(here, home)];
            }
            int best = FAR;
            for (int next = 0; next < MOST_STATIONS; next++) {
                if (has(goals, next)) {
                    int rest = restOfTrip(distances, home, next, goals & ~(1 << next));
                    best = Math.min(best, distances[cell(here, next)] + rest);
                }
            }
            return best;
        }
    }

    /** The living state and what is done with it; each deed relies on the verdict of its judge. */
    private static final class Desk {
        final State now = new State();
        final Distances distances = new Distances();
        private final BestLoad bestLoad = new BestLoad();
        private final RoundTrips roundTrips = new RoundTrips();

        Verdict judgeStation() {
            return now.stationCount < MOST_STATIONS ? Verdict.FINE : Verdict.BAD_STATE;
        }

        int makeStation() {
            now.stationCount++;
            return now.stationCount - 1;
        }

        Verdict judgeRoad(int first, int second, int length) {
            if (!now.hasStation(first) || !now.hasStation(second)) {
                return Verdict.NO_INDEX;
            }
            boolean good = first != second && isBetween(length, 0, LONGEST_ROAD);
            return good ? Verdict.FINE : Verdict.BAD_ARGUMENT;
        }

        int makeRoad(int first, int second, int length) {
            int previous = now.roads[cell(first, second)];
            now.roads[cell(first, second)] = length;
            now.roads[cell(second, first)] = length;
            return previous;
        }

        Verdict judgeSledge(int station, int capacity) {
            if (!now.hasStation(station)) {
                return Verdict.NO_INDEX;
            }
            if (!isBetween(capacity, LEAST_CAPACITY, MOST_CAPACITY)) {
                return Verdict.BAD_ARGUMENT;
            }
            return now.sledgeCount < MOST_SLEDGES ? Verdict.FINE : Verdict.BAD_STATE;
        }

        int makeSledge(int station, int capacity) {
            Sledge made = now.sledges[now.sledgeCount];
            made.capacity = capacity;
            made.station = station;
            made.hours = 0;
            now.sledgeCount++;
            return now.sledgeCount - 1;
        }

        Verdict judgeLetter(int from, int to, int weight, int fee, int strength) {
            if (!now.hasStation(from) || !now.hasStation(to)) {
                return Verdict.NO_INDEX;
            }
            boolean good = from != to
                    && isBetween(weight, 1, MOST_WEIGHT)
                    && isBetween(fee, 0, MOST_FEE)
                    && isBetween(strength, 1, MOST_STRENGTH);
            if (!good) {
                return Verdict.BAD_ARGUMENT;
            }
            return now.letterCount < MOST_LETTERS ? Verdict.FINE : Verdict.BAD_STATE;
        }

        int makeLetter(int from, int to, int weight, int fee, int strength) {
            Letter made = now.letters[now.letterCount];
            made.id = now.nextId;
            made.destination = to;
            made.weight = weight;
            made.fee = fee;
            made.strength = strength;
            made.ice = strength;
            made.sledge = NONE;
            made.station = from;
            now.letterCount++;
            now.nextId++;
            return made.id;
        }

        Verdict judgePutOn(int sledge, int id) {
            if (!now.hasSledge(sledge)) {
                return Verdict.NO_INDEX;
            }
            Letter letter = now.findLetter(id);
            if (letter == null) {
                return Verdict.NO_ELEMENT;
            }
            Sledge target = now.sledges[sledge];
            if (target.travels() || !letter.waitsAt(target.station)) {
                return Verdict.BAD_STATE;
            }
            return letter.weight <= now.roomOn(sledge) ? Verdict.FINE : Verdict.UNSUPPORTED;
        }

        int putOn(int sledge, int id) {
            Letter letter = now.findLetter(id);
            if (letter != null) {
                letter.sledge = sledge;
            }
            return now.weightOn(sledge);
        }

        Verdict judgeTakeOff(int sledge, int id) {
            if (!now.hasSledge(sledge)) {
                return Verdict.NO_INDEX;
            }
            Letter letter = now.findLetter(id);
            if (letter == null) {
                return Verdict.NO_ELEMENT;
            }
            boolean good = !now.sledges[sledge].travels() && letter.sledge == sledge;
            return good ? Verdict.FINE : Verdict.BAD_STATE;
        }

        int takeOff(int sledge, int id) {
            Letter letter = now.findLetter(id);
            if (letter != null) {
                letter.sledge = NONE;
                letter.station = now.sledges[sledge].station;
            }
            return now.weightOn(sledge);
        }

        Verdict judgeBest(int sledge) {
            if (!now.hasSledge(sledge)) {
                return Verdict.NO_INDEX;
            }
            return now.sledges[sledge].travels() ? Verdict.BAD_STATE : Verdict.FINE;
        }

        int putBestOn(int sledge) {
            int set = bestLoad.bestSet(now, sledge);
            int count = 0;
            for (int position = 0; position < now.letterCount; position++) {
                if (BestLoad.contains(set, position)) {
                    now.letters[position].sledge = sledge;
                    count++;
                }
            }
            return count;
        }

        int bestFees(int sledge) {
            return BestLoad.feesOfSet(now, bestLoad.bestSet(now, sledge));
        }

        int bestFeesByTrying(int sledge) {
            return BestLoad.feesByTrying(now, sledge);
        }

        Verdict judgeGo(int sledge, int station) {
            if (!now.hasSledge(sledge) || !now.hasStation(station)) {
                return Verdict.NO_INDEX;
            }
            Sledge traveller = now.sledges[sledge];
            if (traveller.travels() || traveller.station == station) {
                return Verdict.BAD_STATE;
            }
            int way = distances.nearestWay(now, traveller.station, station);
            return way < FAR ? Verdict.FINE : Verdict.UNSUPPORTED;
        }

        int go(int sledge, int station) {
            Sledge traveller = now.sledges[sledge];
            int way = distances.nearestWay(now, traveller.station, station);
            traveller.station = station;
            traveller.hours = way;
            now.purse -= way;
            now.tollsPaid += way;
            return way;
        }

        Verdict judgeDegrees(int degrees) {
            return isBetween(degrees, COLDEST, WARMEST) ? Verdict.FINE : Verdict.BAD_ARGUMENT;
        }

        int changeDegrees(int degrees) {
            int previous = now.degrees;
            now.degrees = degrees;
            return previous;
        }

        Verdict judgeHours(int hours) {
            return isBetween(hours, 1, MOST_HOURS) ? Verdict.FINE : Verdict.BAD_ARGUMENT;
        }

        int passHours(int hours) {
            int deliveredBefore = now.delivered;
            for (int hour = 0; hour < hours; hour++) {
                passHour();
            }
            return now.delivered - deliveredBefore;
        }

        private void passHour() {
            now.hours++;
            for (int i = 0; i < now.letterCount; i++) {
                now.letters[i].feel(now.degrees);
            }
            for (int sledge = 0; sledge < now.sledgeCount; sledge++) {
                if (now.sledges[sledge].travels()) {
                    now.sledges[sledge].hours--;
                    deliverIfArrived(sledge);
                }
            }
        }

        private void deliverIfArrived(int sledge) {
            Sledge traveller = now.sledges[sledge];
            if (traveller.travels()) {
                return;
            }
            // From the last to the first, as the later letters move up when one is removed.
            for (int i = now.letterCount - 1; i >= 0; i--) {
                Letter letter = now.letters[i];
                if (letter.sledge == sledge && letter.destination == traveller.station) {
                    int got = letter.thawed() ? letter.fee / 2 : letter.fee;
                    now.purse += got;
                    now.feesGot += got;
                    now.delivered++;
                    now.removeLetter(i);
                }
            }
        }

        Verdict judgeTrip(int sledge) {
            if (!now.hasSledge(sledge)) {
                return Verdict.NO_INDEX;
            }
            return tripExists(sledge) ? Verdict.FINE : Verdict.NO_ELEMENT;
        }

        private boolean tripExists(int sledge) {
            int home = now.sledges[sledge].station;
            for (int i = 0; i < now.letterCount; i++) {
                Letter letter = now.letters[i];
                if (letter.sledge == sledge
                        && distances.nearestWay(now, home, letter.destination) >= FAR) {
                    return false;
                }
            }
            return true;
        }

        int tripBySets(int sledge) {
            distances.goOnFromNearestOfAll(now);
            int home = now.sledges[sledge].station;
            return roundTrips.shortestBySets(distances.byNearest, home, goalsOf(sledge));
        }

        int tripByOrders(int sledge) {
            distances.allowMoreStations(now);
            int home = now.sledges[sledge].station;
            return RoundTrips.shortestByOrders(distances.byStations, home, goalsOf(sledge));
        }

        private int goalsOf(int sledge) {
            int goals = 0;
            for (int i = 0; i < now.letterCount; i++) {
                if (now.letters[i].sledge == sledge) {
                    goals |= 1 << now.letters[i].destination;
                }
            }
            // The trip begins at home, so home is visited anyway.
            return goals & ~(1 << now.sledges[sledge].station);
        }

        boolean distancesAgree() {
            distances.goOnFromNearestOfAll(now);
            distances.allowMoreStations(now);
            for (int first = 0; first < now.stationCount; first++) {
                for (int second = 0; second < now.stationCount; second++) {
                    int cell = cell(first, second);
                    if (distances.byNearest[cell] != distances.byStations[cell]) {
                        return false;
                    }
                }
            }
            return true;
        }

        boolean sledgesAgree() {
            for (int sledge = 0; sledge < now.sledgeCount; sledge++) {
                if (now.roomOn(sledge) < 0) {
                    return false;
                }
                if (!now.sledges[sledge].travels() && !plansAgree(sledge)) {
                    return false;
                }
            }
            return true;
        }

        private boolean plansAgree(int sledge) {
            if (bestFees(sledge) != bestFeesByTrying(sledge)) {
                return false;
            }
            return !tripExists(sledge) || tripBySets(sledge) == tripByOrders(sledge);
        }

        boolean codesAreValid() {
            for (int i = 0; i < now.letterCount; i++) {
                if (!isValidCode(now.letters[i].code())) {
                    return false;
                }
            }
            return true;
        }

        Verdict judge(Command command, int[] given) {
            switch (command) {
                case STATION:
                    return judgeStation();
                case ROAD:
                    return judgeRoad(given[0], given[1], given[2]);
                case SLEDGE:
                    return judgeSledge(given[0], given[1]);
                case POST:
                    return judgeLetter(given[0], given[1], given[2], given[3], given[4]);
                case LOAD:
                    return judgePutOn(given[0], given[1]);
                case UNLOAD:
                    return judgeTakeOff(given[0], given[1]);
                case BEST:
                    return judgeBest(given[0]);
                case GO:
                    return judgeGo(given[0], given[1]);
                case HEAT:
                    return judgeDegrees(given[0]);
                default:
                    return judgeHours(given[0]);
            }
        }

        int carryOut(Command command, int[] given) {
            switch (command) {
                case STATION:
                    return makeStation();
                case ROAD:
                    return makeRoad(given[0], given[1], given[2]);
                case SLEDGE:
                    return makeSledge(given[0], given[1]);
                case POST:
                    return makeLetter(given[0], given[1], given[2], given[3], given[4]);
                case LOAD:
                    return putOn(given[0], given[1]);
                case UNLOAD:
                    return takeOff(given[0], given[1]);
                case BEST:
                    return putBestOn(given[0]);
                case GO:
                    return go(given[0], given[1]);
                case HEAT:
                    return changeDegrees(given[0]);
                default:
                    return passHours(given[0]);
            }
        }
    }

    /** Reads the commands of a script one after the other. */
    private static final class ScriptReader {
        private static final int MOST_NUMBERS = 5;
        private static final int MOST_DIGITS = 3;
        // No script holds it, so that it can stand for what comes behind the last character.
        private static final char END = 0;

        final StringBuilder text = new StringBuilder();
        // What readCommand found: the command, its numbers, and where it ends or goes wrong.
        Command command = Command.STATION;
        final int[] numbers = new int[MOST_NUMBERS];
        int at;
        private int numberCount;

        /** Returns the error position, or NONE if the text has the form of a script. */
        int findError() {
            int start = 0;
            for (int commands = 0; commands < MOST_CHARACTERS; commands++) {
                if (!readCommand(start)) {
                    return at;
                }
                if (at >= text.length()) {
                    return NONE;
                }
                if (signAt(at) != ';') {
                    return at;
                }
                start = at + 1;
            }
            return start;
        }

        int countCommands() {
            int count = 1;
            for (int i = 0; i < text.length(); i++) {
                if (text.charAt(i) == ';') {
                    count++;
                }
            }
            return count;
        }

        boolean readCommand(int start) {
            int furthest = start;
            for (int i = 0; i < COMMANDS.length; i++) {
                at = start;
                numberCount = 0;
                if (readForm(COMMANDS[i].form)) {
                    command = COMMANDS[i];
                    return true;
                }
                furthest = Math.max(furthest, at);
            }
            at = furthest;
            return false;
        }

        private boolean readForm(String form) {
            for (int i = 0; i < form.length(); i++) {
                if (!readPart(form.charAt(i))) {
                    return false;
                }
            }
            return true;
        }

        private boolean readPart(char part) {
            switch (part) {
                case '#':
                    return readNumber(1, 1);
                case '%':
                    return readNumber(MOST_DIGITS, 1);
                case '~':
                    return readNumber(MOST_DIGITS, readSign('-') ? -1 : 1);
                case '?':
                    return readSign(' ') ? readNumber(MOST_DIGITS, 1) : take(1);
                default:
                    return readSign(part);
            }
        }

        private boolean readNumber(int mostDigits, int factor) {
            int value = 0;
            int digits = 0;
            while (digits < mostDigits && isBetween(signAt(at), '0', '9')) {
                value = 10 * value + signAt(at) - '0';
                digits++;
                at++;
            }
            return digits > 0 && take(factor * value);
        }

        private boolean take(int number) {
            if (numberCount >= MOST_NUMBERS) {
                return false;
            }
            numbers[numberCount] = number;
            numberCount++;
            return true;
        }

        private boolean readSign(char sign) {
            if (signAt(at) != sign) {
                return false;
            }
            at++;
            return true;
        }

        private char signAt(int index) {
            return index >= 0 && index < text.length() ? text.charAt(index) : END;
        }
    }
}
