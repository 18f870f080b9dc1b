import java.util.ArrayList;
import java.util.Comparator;
import java.util.List;
import java.util.NoSuchElementException;

/**
 * A second Dramwright, written along the document's sentences and in its plainest form: it keeps all commands and looks
 * through them for each question, mends by trying each change of a word, and sorts what it is to order. It looks at
 * its state, but at no arguments: it is asked only what is in range. Where the words leave a choice, it has the
 * readings that NOTES.md tells.
 */
final class Model {
    private static final int PATROLS = 4;
    private static final String SHARED = "DEFGHJOQRS";

    /** A command, with the distances that held as it was issued. */
    record Command(char letter, int rank, int bank, int number, long time, int[] distances) {
        boolean is(String letters) {
            return letters.indexOf(letter) >= 0;
        }

        int distance(char which) {
            return distances[which - 'A'];
        }

        long dataBegin() {
            return time + distance(letter == 'r' ? 'L' : 'M');
        }

        long dataEnd() {
            return dataBegin() + distance('N');
        }
    }

    /** A trace of commands, and what the rules say of the next one. */
    static final class Trace {
        /** Further behind than this, no distance reaches: three distances of 99 at most. */
        private static final int FAR = 300;
        final List<Command> commands = new ArrayList<>();
        private final int[][] openRows = {{-1, -1, -1, -1}, {-1, -1, -1, -1}};
        private final boolean[] rests = new boolean[2];
        private final List<List<Command>> openings = List.of(new ArrayList<>(), new ArrayList<>());

        void clear() {
            commands.clear();
            for (int rank = 0; rank < 2; rank++) {
                openRows[rank] = new int[] {-1, -1, -1, -1};
                rests[rank] = false;
                openings.get(rank).clear();
            }
        }

        boolean hasOpenBank(int rank) {
            for (int row : openRows[rank]) {
                if (row >= 0) {
                    return true;
                }
            }
            return false;
        }

        char verdict(Command next) {
            if (rests[next.rank] ? !next.is("x") : next.is("x")) {
                return 'z';
            }
            boolean isOpen = openRows[next.rank][next.bank] >= 0;
            if (next.is("ag") && isOpen || next.is("rwp") && !isOpen || next.is("fdt") && hasOpenBank(next.rank)) {
                return 'o';
            }
            String broken = broken(next);
            return broken.isEmpty() ? '-' : broken.charAt(0);
        }

        /** The distances that a command would break, in the order of their letters. */
        String broken(Command next) {
            StringBuilder text = new StringBuilder();
            for (char which = 'A'; which <= 'S'; which++) {
                for (int i = commands.size() - 1; i >= 0 && next.time - commands.get(i).time <= FAR; i--) {
                    if (breaks(which, commands.get(i), next)) {
                        text.append(which);
                        break;
                    }
                }
                if (which == 'F' && breaksF(next)) {
                    text.append('F');
                }
            }
            return text.toString();
        }

        private boolean breaksF(Command next) {
            List<Command> before = openings.get(next.rank);
            return next.is("a") && before.size() >= 4
                && next.time - before.get(before.size() - 4).time < next.distance('F');
        }

        private static boolean breaks(char which, Command old, Command next) {
            if (which == 'Q') {
                boolean isOther = old.rank != next.rank || old.letter != next.letter;
                return old.is("rw") && next.is("rw")
                    && next.dataBegin() < old.dataEnd() + (isOther ? next.distance('Q') : 0);
            }
            if (old.rank != next.rank) {
                return false;
            }
            boolean isBank = old.bank == next.bank;
            boolean isGroup = old.bank / 2 == next.bank / 2;
            int distance = next.distance(which);
            boolean isTooEarly = next.time < old.time + distance;
            switch (which) {
                case 'A': return old.is("a") && next.is("rw") && isBank && isTooEarly;
                case 'B': return old.is("p") && (next.is("ag") && isBank || next.is("fdt")) && isTooEarly;
                case 'C': return old.is("a") && next.is("p") && isBank && isTooEarly;
                case 'D': return old.is("a") && next.is("a") && !isGroup && isTooEarly;
                case 'E': return old.is("a") && next.is("a") && isGroup && !isBank && isTooEarly;
                case 'G': return old.is("rw") && next.is("rw") && !isGroup && isTooEarly;
                case 'H': return old.is("rw") && next.is("rw") && isGroup && isTooEarly;
                case 'I': return old.is("w") && next.is("p") && isBank && next.time < old.dataEnd() + distance;
                case 'J': return old.is("w") && next.is("r") && next.time < old.dataEnd() + distance;
                case 'K': return old.is("r") && next.is("p") && isBank && isTooEarly;
                case 'O': return old.is("ft") && isTooEarly;
                case 'P': return old.is("g") && (next.is("arwpg") && isBank || next.is("fdt")) && isTooEarly;
                case 'R': return old.is("x") && isTooEarly;
                case 'S': return (old.is("d") && next.is("x") || old.is("x") && next.is("d")) && isTooEarly;
                default: return false;
            }
        }

        void add(Command command) {
            commands.add(command);
            switch (command.letter) {
                case 'a':
                    openRows[command.rank][command.bank] = Math.max(0, command.number);
                    openings.get(command.rank).add(command);
                    break;
                case 'p': openRows[command.rank][command.bank] = -1; break;
                case 'd': rests[command.rank] = true; break;
                case 'x': rests[command.rank] = false; break;
                default: break;
            }
        }

        long lastTime() {
            return commands.isEmpty() ? 0 : commands.get(commands.size() - 1).time;
        }
    }

    /** A word as it is stored: 40 bits, the code above the data, and its poison. */
    static final class Word {
        long bits;
        boolean poison;
    }

    /** A word as it is read. */
    record Reading(int word, char how, boolean poison) {
    }

    /** A bit with a fault: where it is, and what it reads or how many cycles it bears. */
    record Fault(Word word, int rank, int bank, int row, int bit, int number) {
    }

    static final class Request {
        int master;
        int address;
        boolean isWrite;
        int value;
        int mask;
        boolean poison;
        int[] place;
        long brought;
        long done;
        int waited;
        boolean hit;
        char state = 'w';
        char flag;
    }

    private final int[] distances = {4, 4, 9, 2, 3, 12, 2, 3, 5, 4, 3, 4, 3, 2, 20, 10, 1, 3, 4};
    private int upper = 6;
    private int lower = 2;
    private int bound = 150;
    private int interval = 200;
    private int limit = 30;
    private int rest;
    private int patrolEvery;
    private boolean byBanks;
    private boolean ahead;
    private boolean usesSpares;
    private char rows = 'o';
    private final int[] priorities = new int[5];
    private final int[] shares = {1, 1, 1, 1, 1};
    private int map;
    private boolean mixes;
    private boolean isMapTold;
    private int toldMap;
    private boolean toldMixes;
    private long frozenTill;
    private char code = 's';
    private boolean isSlow;
    private int warmth = 20;
    private long now;
    private final List<Request> requests = new ArrayList<>();
    private final List<Request> waiting = new ArrayList<>();
    private final List<Request> underWay = new ArrayList<>();
    private List<Request> looked = new ArrayList<>();
    private boolean drains;
    private final int[] issuedOf = new int[5];
    private int nextPatrol;
    private final Trace issued = new Trace();
    private final Trace judged = new Trace();
    private final Word[][][][] words = new Word[2][4][34][16];
    private final long[][][] restored = new long[2][4][34];
    private final int[][][] openCounts = new int[2][4][34];
    private final int[][][] faultCounts = new int[2][4][34];
    private final int[][] lastOpened = {{-1, -1, -1, -1}, {-1, -1, -1, -1}};
    private final int[][] lessons = {{2, 2, 2, 2}, {2, 2, 2, 2}};
    private final int[] owes = new int[2];
    private final int[] turns = new int[2];
    private final boolean[] toTrain = new boolean[2];
    private final long[] lastIssued = new long[2];
    private final int[] begins = {4, 4};
    private final int[] widths = {8, 8};
    private final int[] delays = {8, 8};
    private final List<int[]> guards = new ArrayList<>();
    /** Which row was replaced by which spare one: rank, bank, row, spare row, in the order of the replacing. */
    private final List<int[]> replaced = new ArrayList<>();
    private final List<Fault> stuck = new ArrayList<>();
    private final List<Fault> fading = new ArrayList<>();
    private long energy;
    private final long[] waits = new long[6];
    private int mended;
    private int lost;
    private int patrolled;
    private int hits;
    private int allIssued;
    private long delaySum;
    private int allDone;

    Model() {
        for (Word[][][] rank : words) {
            for (Word[][] bank : rank) {
                for (Word[] row : bank) {
                    for (int column = 0; column < 16; column++) {
                        row[column] = new Word();
                    }
                }
            }
        }
    }

    // ---- settings

    private static void refuseIf(boolean isRefused) {
        if (isRefused) {
            throw new IllegalStateException();
        }
    }

    private boolean isBusy() {
        return !waiting.isEmpty() || !underWay.isEmpty();
    }

    private void refuseIfFull(boolean writes) {
        refuseIf(waiting.stream().filter(one -> one.isWrite == writes && one.master != PATROLS).count() >= 8
            || isMapTold || requests.size() >= 400);
    }

    int distance(char which, int cycles) {
        refuseIf(commands() > 0);
        int before = distances[which - 'A'];
        distances[which - 'A'] = cycles;
        return before;
    }

    int policy(char which, int value) {
        int before;
        switch (which) {
            case 'u': before = upper; upper = value; return before;
            case 'l': before = lower; lower = value; return before;
            case 'b': before = bound; bound = value; return before;
            case 'i': before = interval; interval = value; return before;
            case 'h': before = limit; limit = value; return before;
            case 'r': before = rest; rest = value; return before;
            case 'p': before = patrolEvery; patrolEvery = value; return before;
            case 'g': before = byBanks ? 1 : 0; byBanks = value == 1; return before;
            case 'a': before = ahead ? 1 : 0; ahead = value == 1; return before;
            default: before = usesSpares ? 1 : 0; usesSpares = value == 1; return before;
        }
    }

    char rows(char policy) {
        char before = rows;
        rows = policy;
        return before;
    }

    int master(int master, int priority, int share) {
        int before = 10 * priorities[master] + shares[master];
        priorities[master] = priority;
        shares[master] = share;
        return before;
    }

    int map(int told, boolean isMixing) {
        refuseIf(isMapTold);
        isMapTold = true;
        toldMap = told;
        toldMixes = isMixing;
        return waiting.size() + underWay.size();
    }

    int place(int address, char what) {
        return placeOf(address)["kbrc".indexOf(what)];
    }

    char code(char told) {
        refuseIf(isBusy());
        char before = code;
        if (told != before) {
            eachWord((rank, bank, row, column) -> {
                Reading reading = readingOf(rank, bank, row, column);
                Word word = words[rank][bank][row][column];
                word.bits = word.bits & 0xffffffffL | (long) codeOf(told, reading.word) << 32;
            });
            code = told;
        }
        return before;
    }

    boolean slow(boolean told) {
        refuseIf(isBusy() || issued.hasOpenBank(0) || issued.hasOpenBank(1));
        boolean before = isSlow;
        isSlow = told;
        return before;
    }

    int warmth(int told) {
        int before = warmth;
        warmth = told;
        return before;
    }

    // ---- requests and cycles

    int read(int master, int address) {
        refuseIfFull(false);
        Request request = new Request();
        requests.add(request);
        bring(request, master, address);
        return requests.size() - 1;
    }

    int write(int master, int address, int value, int mask, boolean isPoison) {
        refuseIfFull(true);
        Request request = new Request();
        request.isWrite = true;
        request.value = value;
        request.mask = mask;
        request.poison = isPoison;
        requests.add(request);
        bring(request, master, address);
        return requests.size() - 1;
    }

    private void bring(Request request, int master, int address) {
        request.master = master;
        request.address = address;
        request.place = placeOf(address);
        request.brought = now;
        request.hit = openRow(request.place[0], request.place[1]) == request.place[2];
        if (!request.isWrite) {
            Request youngest = null;
            for (Request other : waiting) {
                if (other.isWrite && other.address == address) {
                    youngest = other;
                }
            }
            if (youngest != null && youngest.mask == 15) {
                request.value = youngest.value;
                request.flag = youngest.poison ? 'q' : 'f';
                request.done = now;
                end(request);
                return;
            }
        }
        waiting.add(request);
    }

    private void end(Request request) {
        request.state = 'd';
        if (request.master == PATROLS) {
            patrolled++;
        } else {
            allDone++;
            delaySum += request.done - request.brought;
        }
    }

    int go(int cycles) {
        int before = commands();
        for (int i = 0; i < cycles; i++) {
            pass();
        }
        return commands() - before;
    }

    int finish(int most) {
        int passed = 0;
        while (passed < most && (isMapTold || waiting.stream().anyMatch(one -> one.master != PATROLS)
            || underWay.stream().anyMatch(one -> one.master != PATROLS))) {
            pass();
            passed++;
        }
        return passed;
    }

    char state(int request) {
        return requests.get(request).state;
    }

    int valueOf(int request) {
        return doneRead(request).value;
    }

    char flagOf(int request) {
        return doneRead(request).flag;
    }

    private Request doneRead(int request) {
        Request asked = requests.get(request);
        if (asked.isWrite || asked.state != 'd') {
            throw new NoSuchElementException();
        }
        return asked;
    }

    long doneAt(int request) {
        if (requests.get(request).state != 'd') {
            throw new NoSuchElementException();
        }
        return requests.get(request).done;
    }

    int waited(int request) {
        return requests.get(request).waited;
    }

    int queued(boolean writes) {
        return (int) waiting.stream().filter(one -> one.isWrite == writes).count();
    }

    long cycle() {
        return now;
    }

    boolean isDraining() {
        return drains;
    }

    // ---- chips and commands

    int openRow(int rank, int bank) {
        return issued.openRows[rank][bank];
    }

    int owed(int rank) {
        return owes[rank];
    }

    boolean rests(int rank) {
        return issued.rests[rank];
    }

    int learned(int rank, int bank) {
        return lessons[rank][bank];
    }

    int opened(int rank, int bank, int row) {
        return openCounts[rank][bank][row];
    }

    int guarded() {
        return guards.size();
    }

    int commands() {
        return issued.commands.size();
    }

    int command(int index, char what) {
        Command command = issued.commands.get(index);
        switch (what) {
            case 'k': return command.rank;
            case 'b': return command.is("fdtx") ? -1 : command.bank;
            case 'r': return command.number;
            case 't': return command.letter;
            default: return (int) command.time;
        }
    }

    char judge(char letter, int rank, int bank, int cycles) {
        Command next = new Command(letter, rank, bank, -1, judged.lastTime() + cycles, distancesNow());
        char verdict = judged.verdict(next);
        if (verdict == '-') {
            judged.add(next);
        }
        return verdict;
    }

    int judged() {
        int before = judged.commands.size();
        judged.clear();
        return before;
    }

    boolean isLawful() {
        return true;
    }

    // ---- faults

    int stick(int rank, int bank, int row, int column, int bit, boolean isOne) {
        refuseIf(stuck.size() >= 20);
        stuck.add(new Fault(words[rank][bank][row][column], rank, bank, row, bit, isOne ? 1 : 0));
        return stuck.size();
    }

    int fade(int rank, int bank, int row, int column, int bit, int cycles) {
        refuseIf(fading.size() >= 20);
        fading.add(new Fault(words[rank][bank][row][column], rank, bank, row, bit, cycles));
        return fading.size();
    }

    int flip(int rank, int bank, int row, int column, int bit) {
        Word word = words[rank][bank][row][column];
        word.bits ^= 1L << bit;
        return (int) (word.bits >> bit & 1);
    }

    int eye(int rank, int begin, int width) {
        begins[rank] = begin;
        widths[rank] = width;
        return delays[rank];
    }

    boolean train(int rank) {
        boolean before = toTrain[rank];
        toTrain[rank] = true;
        return !before;
    }

    int delay(int rank) {
        return delays[rank];
    }

    int faults(int rank, int bank, int row) {
        return faultCounts[rank][bank][row];
    }

    int spares(int rank, int bank) {
        return 2 - (int) replaced.stream().filter(one -> one[0] == rank && one[1] == bank).count();
    }

    // ---- accounts

    long energy() {
        return energy;
    }

    long waits(char cause) {
        return waits["fdhsbq".indexOf(cause)];
    }

    int mended() {
        return mended;
    }

    int lost() {
        return lost;
    }

    int patrolled() {
        return patrolled;
    }

    float hitShare() {
        if (allIssued == 0) {
            throw new ArithmeticException();
        }
        return (float) hits / (float) allIssued;
    }

    double meanDelay() {
        if (allDone == 0) {
            throw new ArithmeticException();
        }
        return (double) delaySum / (double) allDone;
    }

    boolean isConsistent() {
        return true;
    }

    // ---- places

    /** Rank, bank, row and column of an address. */
    private int[] placeOf(int address) {
        String order = List.of("cbkr", "bckr", "crbk", "kbcr").get(map);
        int[] parts = new int[4];
        int left = address;
        for (char part : order.toCharArray()) {
            int bits = part == 'c' ? 4 : part == 'b' ? 2 : part == 'k' ? 1 : 5;
            parts["kbrc".indexOf(part)] = left % (1 << bits);
            left /= 1 << bits;
        }
        if (mixes) {
            parts[1] ^= parts[2] % 4;
        }
        for (int[] one : replaced) {
            if (one[0] == parts[0] && one[1] == parts[1] && one[2] == parts[2]) {
                parts[2] = one[3];
            }
        }
        return parts;
    }

    /** What is done for each word. */
    interface WordTask {
        void run(int rank, int bank, int row, int column);
    }

    private static void eachWord(WordTask task) {
        for (int i = 0; i < 2 * 4 * 34 * 16; i++) {
            task.run(i / 16 / 34 / 4, i / 16 / 34 % 4, i / 16 % 34, i % 16);
        }
    }

    // ---- codes

    static int codeOf(char kind, int word) {
        if (kind == 'n') {
            return 0;
        }
        if (kind == 'c') {
            int low = 0;
            int high = 0;
            for (int k = 0; k < 8; k++) {
                int digit = word >>> 4 * k & 15;
                low ^= digit;
                for (int i = 0; i < k; i++) {
                    digit = digit << 1 > 15 ? digit << 1 ^ 19 : digit << 1;
                }
                high ^= digit;
            }
            return high << 4 | low;
        }
        int code = 0;
        int bit = 0;
        int ones = 0;
        for (int place = 1; place <= 38; place++) {
            if (Integer.bitCount(place) > 1) {
                if ((word >>> bit & 1) == 1) {
                    code ^= place;
                    ones++;
                }
                bit++;
            }
        }
        return code | (ones + Integer.bitCount(code)) % 2 << 6;
    }

    private static boolean isWhole(char kind, long bits) {
        int mask = kind == 's' ? 127 : 255;
        return codeOf(kind, (int) bits) == (int) (bits >>> 32 & mask);
    }

    /** Mends by trying each change of a bit, or of a digit. */
    static Reading mend(char kind, long bits, boolean poison) {
        if (kind == 'n' || isWhole(kind, bits)) {
            return new Reading((int) bits, 'r', poison);
        }
        for (int at = 0; at < 40; at += kind == 's' ? 1 : 4) {
            for (long change = 1; change < (kind == 's' ? 2 : 16); change++) {
                long tried = bits ^ change << at;
                if (isWhole(kind, tried)) {
                    return new Reading((int) tried, 'm', poison);
                }
            }
        }
        return new Reading((int) bits, 'l', true);
    }

    private Reading readingOf(int rank, int bank, int row, int column) {
        Word word = words[rank][bank][row][column];
        long bits = word.bits;
        for (Fault fault : stuck) {
            if (fault.word == word) {
                bits = bits & ~(1L << fault.bit) | (long) fault.number << fault.bit;
            }
        }
        int begin = begins[rank] + warmth / 10;
        if (delays[rank] < begin || delays[rank] > begin + widths[rank] - 1) {
            bits ^= 1;
        }
        return mend(code, bits, word.poison);
    }

    private void store(Word word, int data, boolean poison) {
        word.bits = data & 0xffffffffL | (long) codeOf(code, data) << 32;
        word.poison = poison;
    }

    private void restore(int rank, int bank, int row) {
        long cycles = now - restored[rank][bank][row];
        for (Fault fault : fading) {
            if (fault.rank == rank && fault.bank == bank && fault.row == row
                && (cycles > fault.number || warmth >= 50 && 2 * cycles > fault.number)) {
                fault.word.bits &= ~(1L << fault.bit);
            }
        }
        restored[rank][bank][row] = now;
    }

    // ---- a cycle

    private int[] distancesNow() {
        int[] held = distances.clone();
        for (int i = 0; i < held.length && isSlow; i++) {
            held[i] = i == 'N' - 'A' ? held[i] : (held[i] + 1) / 2;
        }
        return held;
    }

    private void pass() {
        for (Request request : List.copyOf(underWay)) {
            if (request.done == now) {
                underWay.remove(request);
                end(request);
            }
        }
        if (isMapTold && waiting.isEmpty() && underWay.isEmpty()) {
            takeMap();
        }
        if (now != 0 && now % interval == 0) {
            owes[0] += 4;
            owes[1] += 4;
        }
        boolean isPatrolDue = patrolEvery != 0 && now != 0 && now % patrolEvery == 0;
        if (isPatrolDue && !isMapTold && waiting.stream().noneMatch(one -> one.master == PATROLS)) {
            bring(new Request(), PATROLS, nextPatrol);
            nextPatrol = (nextPatrol + 1) % 4096;
        }
        lookAround();
        if (now >= frozenTill) {
            choose();
        }
        for (Request request : waiting) {
            waits["fdhsbq".indexOf(cause(request))]++;
            request.waited++;
        }
        for (int rank = 0; rank < 2; rank++) {
            energy += issued.rests[rank] ? 1 : issued.hasOpenBank(rank) ? 3 : 2;
        }
        now++;
    }

    private void takeMap() {
        List<Reading> readings = new ArrayList<>();
        for (int address = 0; address < 4096; address++) {
            int[] place = placeOf(address);
            readings.add(readingOf(place[0], place[1], place[2], place[3]));
        }
        map = toldMap;
        mixes = toldMixes;
        isMapTold = false;
        for (int address = 0; address < 4096; address++) {
            int[] place = placeOf(address);
            store(words[place[0]][place[1]][place[2]][place[3]], readings.get(address).word, readings.get(address).poison);
        }
        frozenTill = now + 50;
    }

    private boolean isUrgent(Request request) {
        return request.waited >= bound;
    }

    private boolean isRowOpen(Request request) {
        return openRow(request.place[0], request.place[1]) == request.place[2];
    }

    private void lookAround() {
        int writes = queued(true);
        int reads = queued(false);
        drains = drains || writes >= upper;
        drains = drains && !(writes <= lower && reads > 0);
        looked = new ArrayList<>();
        for (Request request : waiting) {
            boolean isKind = request.isWrite == (drains || reads == 0);
            Request oldest = waiting.stream().filter(one -> one.address == request.address).findFirst().get();
            if ((isKind || isUrgent(request)) && oldest == request) {
                looked.add(request);
            }
        }
        looked.sort(Comparator.<Request>comparingInt(one -> isUrgent(one) ? 0 : 1)
            .thenComparingInt(one -> isRowOpen(one) ? 0 : 1)
            .thenComparingInt(one -> -priorities[one.master])
            .thenComparing((one, other) -> Long.compare((long) issuedOf[one.master] * shares[other.master],
                (long) issuedOf[other.master] * shares[one.master])));
    }

    // ---- the choice

    private boolean waitsFor(int rank) {
        return waiting.stream().anyMatch(one -> one.place[0] == rank);
    }

    private static boolean isFor(Request request, int rank, int bank, int row) {
        return request.place[0] == rank && request.place[1] == bank && request.place[2] == row;
    }

    private boolean hasGuard(int rank) {
        return guards.stream().anyMatch(one -> one[0] == rank);
    }

    private boolean isShutOut(int rank) {
        return issued.rests[rank] || owes[rank] >= 32;
    }

    private void choose() {
        if (wake() || refreshWhatIsDue() || guard() || serve() || trainOne() || refreshAhead() || shutOne()) {
            return;
        }
        for (int rank = 0; rank < 2; rank++) {
            if (rest != 0 && !waitsFor(rank) && !hasGuard(rank) && !toTrain[rank] && owes[rank] < 4
                && now - lastIssued[rank] >= rest && issue('d', rank, 0, -1)) {
                return;
            }
        }
    }

    private boolean wake() {
        for (int rank = 0; rank < 2; rank++) {
            int one = rank;
            boolean isNeeded = looked.stream().anyMatch(request -> request.place[0] == one) || hasGuard(rank)
                || toTrain[rank] || owes[rank] >= 4;
            if (issued.rests[rank] && isNeeded && issue('x', rank, 0, -1)) {
                return true;
            }
        }
        return false;
    }

    private boolean refreshWhatIsDue() {
        for (int rank = 0; rank < 2; rank++) {
            if (!issued.rests[rank] && owes[rank] >= 32 && refresh(rank)) {
                return true;
            }
        }
        return false;
    }

    private boolean refreshAhead() {
        for (int rank = 0; rank < 2; rank++) {
            if (ahead && !issued.rests[rank] && !waitsFor(rank) && owes[rank] > -32 && refresh(rank)) {
                return true;
            }
        }
        return false;
    }

    private boolean refresh(int rank) {
        if (byBanks) {
            return issue(openRow(rank, turns[rank]) >= 0 ? 'p' : 'g', rank, turns[rank], -1);
        }
        return shutLowest(rank) || issue('f', rank, 0, -1);
    }

    private boolean shutLowest(int rank) {
        return issue('p', rank, 0, -1) || issue('p', rank, 1, -1) || issue('p', rank, 2, -1) || issue('p', rank, 3, -1);
    }

    private boolean guard() {
        for (int[] one : List.copyOf(guards)) {
            if (isShutOut(one[0])) {
                continue;
            }
            boolean isShut = openRow(one[0], one[1]) < 0;
            if (isShut ? issue('a', one[0], one[1], one[2]) : issue('p', one[0], one[1], -1)) {
                return true;
            }
        }
        return false;
    }

    private boolean serve() {
        for (Request request : looked) {
            int rank = request.place[0];
            int bank = request.place[1];
            int open = openRow(rank, bank);
            if (isShutOut(rank)) {
                continue;
            }
            boolean isHeld = nextFor(request) == 'p' && !isUrgent(request)
                && looked.stream().anyMatch(one -> isFor(one, rank, bank, open));
            if (!isHeld && issueFor(request)) {
                return true;
            }
        }
        return false;
    }

    private char nextFor(Request request) {
        if (isRowOpen(request)) {
            return request.isWrite ? 'w' : 'r';
        }
        return openRow(request.place[0], request.place[1]) >= 0 ? 'p' : 'a';
    }

    private boolean issueFor(Request request) {
        char letter = nextFor(request);
        int number = letter == 'a' ? request.place[2] : letter == 'p' ? -1 : request.place[3];
        if (!issue(letter, request.place[0], request.place[1], number)) {
            return false;
        }
        if (letter == 'r' || letter == 'w') {
            access(request);
        }
        return true;
    }

    private boolean trainOne() {
        for (int rank = 0; rank < 2; rank++) {
            if (toTrain[rank] && !isShutOut(rank) && (shutLowest(rank) || issue('t', rank, 0, -1))) {
                return true;
            }
        }
        return false;
    }

    private boolean shutOne() {
        for (int i = 0; i < 8; i++) {
            int rank = i / 4;
            int bank = i % 4;
            int open = openRow(rank, bank);
            boolean isTold = rows == 'c' || rows == 'l' && lessons[rank][bank] >= 2;
            if (open >= 0 && isTold && !isShutOut(rank) && waiting.stream().noneMatch(one -> isFor(one, rank, bank, open))
                && issue('p', rank, bank, -1)) {
                return true;
            }
        }
        return false;
    }

    // ---- what a command does

    /** Issues a command, if it is lawful now, and tells whether it was. */
    private boolean issue(char letter, int rank, int bank, int number) {
        Command command = new Command(letter, rank, bank, number, now, distancesNow());
        if (issued.verdict(command) != '-') {
            return false;
        }
        issued.add(command);
        lastIssued[rank] = now;
        energy += new int[] {10, 4, 8, 8, 40, 12, 20, 1, 1}["aprwfgtdx".indexOf(letter)];
        switch (letter) {
            case 'a': open(rank, bank, number); break;
            case 'f': owes[rank] -= 4; refreshBanks(rank, 0, 3); break;
            case 'g': owes[rank] -= 1; refreshBanks(rank, bank, bank); turns[rank] = (turns[rank] + 1) % 4; break;
            case 't': toTrain[rank] = false; delays[rank] = midst(rank); break;
            default: break;
        }
        return true;
    }

    private int midst(int rank) {
        List<Integer> eye = new ArrayList<>();
        for (int i = 0; i < widths[rank]; i++) {
            eye.add(begins[rank] + warmth / 10 + i);
        }
        int midst = eye.get(eye.size() % 2 == 0 ? eye.size() / 2 - 1 : eye.size() / 2);
        return midst > 31 ? 31 : midst;
    }

    private void refreshBanks(int rank, int first, int last) {
        for (int bank = first; bank <= last; bank++) {
            for (int row = 0; row < 34; row++) {
                restore(rank, bank, row);
                openCounts[rank][bank][row] = 0;
            }
        }
    }

    private void open(int rank, int bank, int row) {
        restore(rank, bank, row);
        int change = lastOpened[rank][bank] == row ? -1 : 1;
        lessons[rank][bank] = Math.max(0, Math.min(3, lessons[rank][bank] + change));
        lastOpened[rank][bank] = row;
        guards.removeIf(one -> one[0] == rank && one[1] == bank && one[2] == row);
        openCounts[rank][bank][row]++;
        if (openCounts[rank][bank][row] >= limit) {
            openCounts[rank][bank][row] = 0;
            for (int neighbour : new int[] {row - 1, row + 1}) {
                boolean isThere = guards.stream()
                    .anyMatch(one -> one[0] == rank && one[1] == bank && one[2] == neighbour);
                if (neighbour >= 0 && neighbour <= 31 && !isThere) {
                    guards.add(new int[] {rank, bank, neighbour});
                }
            }
        }
    }

    private void access(Request request) {
        waiting.remove(request);
        underWay.add(request);
        request.state = 'u';
        request.done = issued.commands.get(commands() - 1).dataEnd();
        issuedOf[request.master]++;
        allIssued++;
        hits += request.hit ? 1 : 0;
        int[] place = request.place;
        Word word = words[place[0]][place[1]][place[2]][place[3]];
        Reading reading = readingOf(place[0], place[1], place[2], place[3]);
        if (request.isWrite) {
            int data = 0;
            for (int i = 0; i < 4; i++) {
                int from = (request.mask >> i & 1) == 1 ? request.value : reading.word;
                data |= from & 255 << 8 * i;
            }
            store(word, data, request.poison || request.mask != 15 && reading.poison);
            return;
        }
        request.value = reading.word;
        request.flag = reading.how != 'l' && reading.poison ? 'p' : reading.how;
        mended += reading.how == 'm' ? 1 : 0;
        lost += reading.how == 'l' ? 1 : 0;
        if (reading.how == 'm' && request.master == PATROLS) {
            store(word, reading.word, word.poison);
        }
        if (reading.how != 'r') {
            faultCounts[place[0]][place[1]][place[2]]++;
            replace(place[0], place[1], place[2]);
        }
    }

    private void replace(int rank, int bank, int row) {
        if (faultCounts[rank][bank][row] < 3 || !usesSpares || spares(rank, bank) == 0) {
            return;
        }
        int spare = 34 - spares(rank, bank);
        replaced.add(new int[] {rank, bank, row, spare});
        for (int column = 0; column < 16; column++) {
            Reading reading = readingOf(rank, bank, row, column);
            store(words[rank][bank][spare][column], reading.word, reading.poison);
        }
        for (Request request : waiting) {
            request.place = placeOf(request.address);
        }
    }

    private char cause(Request request) {
        int rank = request.place[0];
        if (owes[rank] >= 32 || now < frozenTill) {
            return 'f';
        }
        if (issued.rests[rank]) {
            return 'd';
        }
        if (!looked.contains(request)) {
            return 'h';
        }
        String broken = issued.broken(
            new Command(nextFor(request), rank, request.place[1], -1, now, distancesNow()));
        for (char which : SHARED.toCharArray()) {
            if (broken.indexOf(which) >= 0) {
                return 's';
            }
        }
        return broken.isEmpty() ? 'q' : 'b';
    }
}
