import java.util.ArrayList;
import java.util.Arrays;
import java.util.NoSuchElementException;

/**
 * A keeper of memory chips: requests of masters are brought, cycles pass, and in each cycle at most
 * one command is issued to two ranks of banks on one bus.
 *
 * <p>This class tests the arguments of each call; what the chips do is done by the classes inside.
 */
public final class Dramwright {
    private static final int RANKS = 2;
    private static final int BANKS_OF_RANK = 4;
    private static final int BANKS = 8;
    private static final int ROWS = 34;
    private static final int ADDRESSED_ROWS = 32;
    private static final int COLUMNS = 16;
    private static final int LINES = BANKS * ROWS;
    private static final int WORDS = LINES * COLUMNS;
    private static final int ADDRESSES = 4096;
    private static final int BITS = 40;
    private static final int MASTERS = 4;
    private static final int WHOLE_MASK = 15;
    private static final int MOST_REQUESTS = 400;
    private static final int MOST_WAITING = 8;
    private static final int MOST_FAULTS_TOLD = 20;
    private static final int MOST_COMMANDS = 512 * 300;
    private static final int MOST_OWED = 32;
    private static final int OWED_A_REFRESH = 4;
    private static final int CYCLES_OF_A_MOVE = 50;
    private static final int FAULTS_TO_REPLACE = 3;
    private static final int SPARE_ROWS = 2;
    /** Long before the cycle 0, so that no distance from it is broken. */
    private static final long NEVER = -1000000L;

    private static final String LETTERS = "arwpfgdxt";
    private static final String PARTS_OF_PLACE = "kbrc";
    private static final String PARTS_OF_COMMAND = "kbrtc";
    private static final String CAUSES = "fdhsbq";

    private static final int A = 0;
    private static final int B = 1;
    private static final int C = 2;
    private static final int D = 3;
    private static final int E = 4;
    private static final int F = 5;
    private static final int G = 6;
    private static final int H = 7;
    private static final int I = 8;
    private static final int J = 9;
    private static final int K = 10;
    private static final int L = 11;
    private static final int M = 12;
    private static final int N = 13;
    private static final int O = 14;
    private static final int P = 15;
    private static final int Q = 16;
    private static final int R = 17;
    private static final int S = 18;
    private static final int DISTANCES = 19;
    /** The distances whose waits are told as shared ones. */
    private static final int SHARED =
        1 << D | 1 << E | 1 << F | 1 << G | 1 << H | 1 << J | 1 << O | 1 << Q | 1 << R | 1 << S;
    private static final int[] FIRST_DISTANCES =
        {4, 4, 9, 2, 3, 12, 2, 3, 5, 4, 3, 4, 3, 2, 20, 10, 1, 3, 4};

    private static final String NUMBERS = "ulbihrpgas";
    private static final int UPPER = 0;
    private static final int LOWER = 1;
    private static final int BOUND = 2;
    private static final int INTERVAL = 3;
    private static final int OPENINGS = 4;
    private static final int REST = 5;
    private static final int PATROL = 6;
    private static final int BY_BANKS = 7;
    private static final int DRAWN_AHEAD = 8;
    private static final int SPARES_USED = 9;
    private static final int[] FIRST_NUMBERS = {6, 2, 150, 200, 30, 0, 0, 0, 0, 0};
    private static final int[] LEAST_NUMBERS = {1, 0, 10, 50, 2, 0, 0, 0, 0, 0};
    private static final int[] MOST_NUMBERS = {8, 7, 999, 2000, 200, 500, 500, 1, 1, 1};

    private final Keeper keeper;
    private final Rules judgedTrace;

    public Dramwright() {
        keeper = new Keeper();
        judgedTrace = new Rules();
    }

    // ---- settings

    public int distance(char which, int cycles) throws IllegalArgumentException, IllegalStateException {
        int index = which - 'A';
        if (index < 0 || index >= DISTANCES) {
            throw new IllegalArgumentException();
        }
        boolean isGap = index == Q;
        if (cycles < (isGap ? 0 : 1) || cycles > (isGap ? 9 : 99)) {
            throw new IllegalArgumentException();
        }
        if (keeper.log.count > 0) {
            throw new IllegalStateException();
        }
        return keeper.settings.tellDistance(index, cycles);
    }

    public int policy(char which, int value) throws IllegalArgumentException {
        int index = NUMBERS.indexOf(which);
        if (index < 0 || index >= MOST_NUMBERS.length) {
            throw new IllegalArgumentException();
        }
        if (value < LEAST_NUMBERS[index] || value > MOST_NUMBERS[index]) {
            throw new IllegalArgumentException();
        }
        int before = keeper.settings.numbers[index];
        keeper.settings.numbers[index] = value;
        return before;
    }

    public char rows(char policy) throws IllegalArgumentException {
        if (policy != 'o' && policy != 'c' && policy != 'l') {
            throw new IllegalArgumentException();
        }
        char before = keeper.settings.rowPolicy;
        keeper.settings.rowPolicy = policy;
        return before;
    }

    public int master(int master, int priority, int share) throws IndexOutOfBoundsException, IllegalArgumentException {
        needMaster(master);
        if (priority < 0 || priority > 3 || share < 1 || share > 9) {
            throw new IllegalArgumentException();
        }
        Settings settings = keeper.settings;
        int before = 10 * settings.priorities[master] + settings.shares[master];
        settings.priorities[master] = priority;
        settings.shares[master] = share;
        return before;
    }

    public int map(int map, boolean mixes) throws IllegalArgumentException, IllegalStateException {
        if (map < 0 || map > 3) {
            throw new IllegalArgumentException();
        }
        if (keeper.places.hasNewMap) {
            throw new IllegalStateException();
        }
        keeper.places.tellMap(map, mixes);
        return keeper.queue.unfinished();
    }

    public int place(int address, char what) throws IndexOutOfBoundsException, IllegalArgumentException {
        needAddress(address);
        if (PARTS_OF_PLACE.indexOf(what) < 0) {
            throw new IllegalArgumentException();
        }
        int cell = keeper.places.cellOf(address);
        switch (what) {
            case 'k': return rankOfCell(cell);
            case 'b': return bankOfCell(cell);
            case 'r': return rowOfCell(cell);
            default: return cell % COLUMNS;
        }
    }

    public char code(char code) throws IllegalArgumentException, IllegalStateException {
        if (code != 'n' && code != 's' && code != 'c') {
            throw new IllegalArgumentException();
        }
        if (keeper.queue.unfinished() > 0) {
            throw new IllegalStateException();
        }
        char before = keeper.cells.codeKind;
        if (code != before) {
            keeper.cells.changeCode(code);
        }
        return before;
    }

    public boolean slow(boolean isSlow) throws IllegalStateException {
        if (keeper.queue.unfinished() > 0 || keeper.chips.hasOpenBank()) {
            throw new IllegalStateException();
        }
        boolean before = keeper.settings.isSlow;
        keeper.settings.isSlow = isSlow;
        return before;
    }

    public int warmth(int warmth) throws IllegalArgumentException {
        if (warmth < 0 || warmth > 99) {
            throw new IllegalArgumentException();
        }
        int before = keeper.cells.warmth;
        keeper.cells.warmth = warmth;
        keeper.isDisturbed = true;
        return before;
    }

    // ---- requests and cycles

    public int read(int master, int address) throws IndexOutOfBoundsException, IllegalStateException {
        needMaster(master);
        needAddress(address);
        if (keeper.refuses(false)) {
            throw new IllegalStateException();
        }
        Request request = new Request();
        keeper.bringRead(request, master, address);
        return keeper.queue.number(request);
    }

    public int write(int master, int address, int value, int mask, boolean isPoison)
            throws IndexOutOfBoundsException, IllegalArgumentException, IllegalStateException {
        needMaster(master);
        needAddress(address);
        if (mask < 1 || mask > WHOLE_MASK) {
            throw new IllegalArgumentException();
        }
        if (keeper.refuses(true)) {
            throw new IllegalStateException();
        }
        Request request = new Request();
        request.value = value;
        request.mask = mask;
        request.isPoison = isPoison;
        keeper.bringWrite(request, master, address);
        return keeper.queue.number(request);
    }

    public int go(int cycles) throws IllegalArgumentException {
        if (cycles < 1 || cycles > 150) {
            throw new IllegalArgumentException();
        }
        int before = keeper.log.count;
        for (int passed = 0; passed < cycles; passed++) {
            keeper.passCycle();
        }
        return keeper.log.count - before;
    }

    public int finish(int most) throws IllegalArgumentException {
        if (most < 1 || most > 300) {
            throw new IllegalArgumentException();
        }
        int passed = 0;
        while (passed < most && !keeper.isCalm()) {
            keeper.passCycle();
            passed++;
        }
        return passed;
    }

    public char state(int request) throws IndexOutOfBoundsException {
        needRequest(request);
        return keeper.queue.numbered.get(request).stage;
    }

    public int valueOf(int request) throws IndexOutOfBoundsException, NoSuchElementException {
        needRequest(request);
        Request asked = keeper.queue.numbered.get(request);
        if (asked.isWrite || asked.stage != 'd') {
            throw new NoSuchElementException();
        }
        return asked.value;
    }

    public char flagOf(int request) throws IndexOutOfBoundsException, NoSuchElementException {
        needRequest(request);
        Request asked = keeper.queue.numbered.get(request);
        if (asked.isWrite || asked.stage != 'd') {
            throw new NoSuchElementException();
        }
        return asked.flag;
    }

    public long doneAt(int request) throws IndexOutOfBoundsException, NoSuchElementException {
        needRequest(request);
        Request asked = keeper.queue.numbered.get(request);
        if (asked.stage != 'd') {
            throw new NoSuchElementException();
        }
        return asked.endsAt;
    }

    public int waited(int request) throws IndexOutOfBoundsException {
        needRequest(request);
        return keeper.queue.numbered.get(request).cyclesWaited;
    }

    public int queued(boolean writes) {
        return keeper.queue.countWaiting(writes, true);
    }

    public long cycle() {
        return keeper.now;
    }

    public boolean isDraining() {
        return keeper.queue.drains;
    }

    // ---- chips and commands

    public int openRow(int rank, int bank) throws IndexOutOfBoundsException {
        needBank(rank, bank);
        return keeper.chips.open[rank * BANKS_OF_RANK + bank];
    }

    public int owed(int rank) throws IndexOutOfBoundsException {
        needRank(rank);
        return keeper.chips.owes[rank];
    }

    public boolean rests(int rank) throws IndexOutOfBoundsException {
        needRank(rank);
        return keeper.rules.isResting[rank];
    }

    public int learned(int rank, int bank) throws IndexOutOfBoundsException {
        needBank(rank, bank);
        return keeper.chips.lessons[rank * BANKS_OF_RANK + bank];
    }

    public int opened(int rank, int bank, int row) throws IndexOutOfBoundsException {
        needRow(rank, bank, row);
        return keeper.chips.openings[lineOf(rank, bank, row)];
    }

    public int guarded() {
        return keeper.chips.guardCount;
    }

    public int commands() {
        return keeper.log.count;
    }

    public int command(int index, char what) throws IndexOutOfBoundsException, IllegalArgumentException {
        Log log = keeper.log;
        if (index < 0 || index >= log.count) {
            throw new IndexOutOfBoundsException();
        }
        if (PARTS_OF_COMMAND.indexOf(what) < 0) {
            throw new IllegalArgumentException();
        }
        switch (what) {
            case 'k': return log.rankAt(index);
            case 'b': return isOfBank(log.letterAt(index)) ? log.bankAt(index) : -1;
            case 'r': return log.numberAt(index);
            case 't': return log.letterAt(index);
            default: return log.cycles[index];
        }
    }

    public char judge(char command, int rank, int bank, int cycles)
            throws IndexOutOfBoundsException, IllegalArgumentException {
        needBank(rank, bank);
        if (LETTERS.indexOf(command) < 0 || cycles < 1 || cycles > 999) {
            throw new IllegalArgumentException();
        }
        int[] distances = keeper.settings.distancesNow();
        long time = judgedTrace.lastAt + cycles;
        char verdict = judgedTrace.verdict(command, rank, bank, time, distances);
        if (verdict == '-') {
            judgedTrace.put(command, rank, bank, time, distances);
        }
        return verdict;
    }

    public int judged() {
        int before = judgedTrace.count;
        judgedTrace.empty();
        return before;
    }

    public boolean isLawful() {
        return keeper.log.isAllLawful(keeper.settings);
    }

    // ---- faults

    public int stick(int rank, int bank, int row, int column, int bit, boolean isOne)
            throws IndexOutOfBoundsException, IllegalArgumentException, IllegalStateException {
        needColumn(rank, bank, row, column);
        Cells cells = keeper.cells;
        int spot = spotOf(lineOf(rank, bank, row) * COLUMNS + column, bit);
        if (bit < 0 || bit >= BITS || cells.sticks(spot)) {
            throw new IllegalArgumentException();
        }
        if (cells.stuckCount >= MOST_FAULTS_TOLD) {
            throw new IllegalStateException();
        }
        keeper.isDisturbed = true;
        cells.addStuck(spot, isOne);
        return cells.stuckCount;
    }

    public int fade(int rank, int bank, int row, int column, int bit, int cycles)
            throws IndexOutOfBoundsException, IllegalArgumentException, IllegalStateException {
        needColumn(rank, bank, row, column);
        Cells cells = keeper.cells;
        int spot = spotOf(lineOf(rank, bank, row) * COLUMNS + column, bit);
        if (bit < 0 || bit >= BITS || cells.fades(spot) || cycles < 1 || cycles > 9999) {
            throw new IllegalArgumentException();
        }
        if (cells.fadingCount >= MOST_FAULTS_TOLD) {
            throw new IllegalStateException();
        }
        keeper.isDisturbed = true;
        cells.addFading(spot, cycles);
        return cells.fadingCount;
    }

    public int flip(int rank, int bank, int row, int column, int bit)
            throws IndexOutOfBoundsException, IllegalArgumentException {
        needColumn(rank, bank, row, column);
        if (bit < 0 || bit >= BITS) {
            throw new IllegalArgumentException();
        }
        keeper.isDisturbed = true;
        return keeper.cells.turnBit(lineOf(rank, bank, row) * COLUMNS + column, bit);
    }

    public int eye(int rank, int begin, int width) throws IndexOutOfBoundsException, IllegalArgumentException {
        needRank(rank);
        if (begin < 0 || begin > 20 || width < 1 || width > 16) {
            throw new IllegalArgumentException();
        }
        keeper.isDisturbed = true;
        keeper.cells.eyeBegins[rank] = begin;
        keeper.cells.eyeWidths[rank] = width;
        return keeper.cells.delays[rank];
    }

    public boolean train(int rank) throws IndexOutOfBoundsException {
        needRank(rank);
        boolean isNew = !keeper.chips.isToTrain[rank];
        keeper.chips.isToTrain[rank] = true;
        return isNew;
    }

    public int delay(int rank) throws IndexOutOfBoundsException {
        needRank(rank);
        return keeper.cells.delays[rank];
    }

    public int faults(int rank, int bank, int row) throws IndexOutOfBoundsException {
        needRow(rank, bank, row);
        return keeper.cells.faultCounts[lineOf(rank, bank, row)];
    }

    public int spares(int rank, int bank) throws IndexOutOfBoundsException {
        needBank(rank, bank);
        return SPARE_ROWS - keeper.places.sparesTaken[rank * BANKS_OF_RANK + bank];
    }

    // ---- accounts

    public long energy() {
        return keeper.accounts.energySpent;
    }

    public long waits(char cause) throws IllegalArgumentException {
        int index = CAUSES.indexOf(cause);
        if (index < 0 || index >= keeper.accounts.waitsByCause.length) {
            throw new IllegalArgumentException();
        }
        return keeper.accounts.waitsByCause[index];
    }

    public int mended() {
        return keeper.accounts.mendedWords;
    }

    public int lost() {
        return keeper.accounts.lostWords;
    }

    public int patrolled() {
        return keeper.accounts.patrolsDone;
    }

    public float hitShare() throws ArithmeticException {
        if (keeper.accounts.issuedRequests == 0) {
            throw new ArithmeticException();
        }
        return (float) keeper.accounts.hits / (float) keeper.accounts.issuedRequests;
    }

    public double meanDelay() throws ArithmeticException {
        if (keeper.accounts.requestsDone == 0) {
            throw new ArithmeticException();
        }
        return (double) keeper.accounts.delaySum / (double) keeper.accounts.requestsDone;
    }

    public boolean isConsistent() {
        return keeper.log.isAllLawful(keeper.settings)
            && (keeper.isDisturbed || keeper.queue.areWordsRight())
            && keeper.accounts.allWaits() == keeper.queue.allWaited() + keeper.accounts.patrolWaits;
    }

    // ---- what the calls look at first

    private static void needMaster(int master) {
        if (master < 0 || master >= MASTERS) {
            throw new IndexOutOfBoundsException();
        }
    }

    private static void needAddress(int address) {
        if (address < 0 || address >= ADDRESSES) {
            throw new IndexOutOfBoundsException();
        }
    }

    private void needRequest(int request) {
        if (request < 0 || request >= keeper.queue.numbered.size()) {
            throw new IndexOutOfBoundsException();
        }
    }

    private static void needRank(int rank) {
        if (rank < 0 || rank >= RANKS) {
            throw new IndexOutOfBoundsException();
        }
    }

    private static void needBank(int rank, int bank) {
        needRank(rank);
        if (bank < 0 || bank >= BANKS_OF_RANK) {
            throw new IndexOutOfBoundsException();
        }
    }

    private static void needRow(int rank, int bank, int row) {
        needBank(rank, bank);
        if (row < 0 || row >= ROWS) {
            throw new IndexOutOfBoundsException();
        }
    }

    private static void needColumn(int rank, int bank, int row, int column) {
        needRow(rank, bank, row);
        if (column < 0 || column >= COLUMNS) {
            throw new IndexOutOfBoundsException();
        }
    }

    // ---- how places are numbered: a line is a row of a bank, a cell a word, a spot a bit

    private static int lineOf(int rank, int bank, int row) {
        return (rank * BANKS_OF_RANK + bank) * ROWS + row;
    }

    private static int rankOfCell(int cell) {
        return cell / (COLUMNS * ROWS * BANKS_OF_RANK);
    }

    private static int bankOfCell(int cell) {
        return cell / (COLUMNS * ROWS) % BANKS_OF_RANK;
    }

    private static int rowOfCell(int cell) {
        return cell / COLUMNS % ROWS;
    }

    private static int spotOf(int cell, int bit) {
        return cell * BITS + bit;
    }

    private static boolean isOfBank(char letter) {
        return letter == 'a' || letter == 'r' || letter == 'w' || letter == 'p' || letter == 'g';
    }

    /** What was told of distances, numbers and masters. */
    private static final class Settings {
        final int[] fastDistances = FIRST_DISTANCES.clone();
        final int[] slowDistances = new int[DISTANCES];
        final int[] numbers = FIRST_NUMBERS.clone();
        /** The last master is the one of patrols. */
        final int[] priorities = new int[MASTERS + 1];
        final int[] shares = new int[MASTERS + 1];
        char rowPolicy = 'o';
        boolean isSlow;

        Settings() {
            Arrays.fill(shares, 1);
            for (int i = 0; i < DISTANCES; i++) {
                slowDistances[i] = slowed(i, fastDistances[i]);
            }
        }

        private static int slowed(int index, int cycles) {
            return index == N ? cycles : (cycles + 1) / 2;
        }

        int tellDistance(int index, int cycles) {
            int before = fastDistances[index];
            fastDistances[index] = cycles;
            slowDistances[index] = slowed(index, cycles);
            return before;
        }

        int[] distancesNow() {
            return isSlow ? slowDistances : fastDistances;
        }
    }

    /** The rules alone: what a trace of commands lets come next. */
    private static final class Rules {
        final long[] openedAt = new long[BANKS];
        final long[] shutAt = new long[BANKS];
        final long[] readAt = new long[BANKS];
        final long[] writtenTill = new long[BANKS];
        final long[] bankRefreshedAt = new long[BANKS];
        /** The last four openings of each rank, in a ring. */
        final long[] lastOpenings = new long[RANKS * 4];
        final int[] oldestOpening = new int[RANKS];
        /** The last access to each group. */
        final long[] accessedAt = new long[RANKS * 2];
        final long[] rankWrittenTill = new long[RANKS];
        /** The last refresh or training of a rank. */
        final long[] caredAt = new long[RANKS];
        final long[] wokenAt = new long[RANKS];
        final long[] restedAt = new long[RANKS];
        final boolean[] isOpen = new boolean[BANKS];
        final boolean[] isResting = new boolean[RANKS];
        long busyTill;
        int busRank;
        boolean isBusOfWrite;
        long lastAt;
        int count;

        Rules() {
            empty();
        }

        void empty() {
            Arrays.fill(openedAt, NEVER);
            Arrays.fill(shutAt, NEVER);
            Arrays.fill(readAt, NEVER);
            Arrays.fill(writtenTill, NEVER);
            Arrays.fill(bankRefreshedAt, NEVER);
            Arrays.fill(lastOpenings, NEVER);
            Arrays.fill(accessedAt, NEVER);
            Arrays.fill(rankWrittenTill, NEVER);
            Arrays.fill(caredAt, NEVER);
            Arrays.fill(wokenAt, NEVER);
            Arrays.fill(restedAt, NEVER);
            for (int i = 0; i < BANKS; i++) {
                isOpen[i] = false;
            }
            for (int i = 0; i < RANKS; i++) {
                isResting[i] = false;
            }
            busyTill = NEVER;
            lastAt = 0;
            count = 0;
        }

        char verdict(char letter, int rank, int bank, long time, int[] distances) {
            char misfit = misfit(letter, rank, bank);
            if (misfit != '-') {
                return misfit;
            }
            int broken = broken(letter, rank, bank, time, distances);
            for (int i = 0; i < DISTANCES; i++) {
                if ((broken >> i & 1) == 1) {
                    return (char) ('A' + i);
                }
            }
            return '-';
        }

        /** Tells what of rest and open banks forbids a command, whatever the time. */
        char misfit(char letter, int rank, int bank) {
            if (isResting[rank] != (letter == 'x')) {
                return 'z';
            }
            boolean isOpenBank = isOpen[rank * BANKS_OF_RANK + bank];
            switch (letter) {
                case 'a': case 'g': return isOpenBank ? 'o' : '-';
                case 'r': case 'w': case 'p': return isOpenBank ? '-' : 'o';
                case 'x': return '-';
                default: return hasOpenBank(rank) ? 'o' : '-';
            }
        }

        private boolean hasOpenBank(int rank) {
            for (int bank = 0; bank < BANKS_OF_RANK; bank++) {
                if (isOpen[rank * BANKS_OF_RANK + bank]) {
                    return true;
                }
            }
            return false;
        }

        /** Tells the distances that a command would break, one bit for each. */
        int broken(char letter, int rank, int bank, long time, int[] distances) {
            int broken = 0;
            if (time < caredAt[rank] + distances[O]) {
                broken |= 1 << O;
            }
            if (time < wokenAt[rank] + distances[R]) {
                broken |= 1 << R;
            }
            switch (letter) {
                case 'a': return broken | brokenByOpening(rank, bank, time, distances);
                case 'r': return broken | brokenByAccess(rank, bank, time, distances, false);
                case 'w': return broken | brokenByAccess(rank, bank, time, distances, true);
                case 'p': return broken | brokenByShutting(rank * BANKS_OF_RANK + bank, time, distances);
                case 'g': return broken | brokenBehindShutting(rank * BANKS_OF_RANK + bank, 1, time, distances);
                case 'x': return time < restedAt[rank] + distances[S] ? broken | 1 << S : broken;
                case 'd': broken = time < wokenAt[rank] + distances[S] ? broken | 1 << S : broken; break;
                default: break;
            }
            return broken | brokenBehindShutting(rank * BANKS_OF_RANK, BANKS_OF_RANK, time, distances);
        }

        /** Looks at B and P for some banks, from one on. */
        private int brokenBehindShutting(int first, int banks, long time, int[] distances) {
            int broken = 0;
            for (int i = first; i < first + banks; i++) {
                if (time < shutAt[i] + distances[B]) {
                    broken |= 1 << B;
                }
                if (time < bankRefreshedAt[i] + distances[P]) {
                    broken |= 1 << P;
                }
            }
            return broken;
        }

        private int brokenByOpening(int rank, int bank, long time, int[] distances) {
            int at = rank * BANKS_OF_RANK + bank;
            int broken = 0;
            if (time < shutAt[at] + distances[B]) {
                broken |= 1 << B;
            }
            if (time < bankRefreshedAt[at] + distances[P]) {
                broken |= 1 << P;
            }
            for (int other = 0; other < BANKS_OF_RANK; other++) {
                int which = other / 2 == bank / 2 ? E : D;
                if (other != bank && time < openedAt[rank * BANKS_OF_RANK + other] + distances[which]) {
                    broken |= 1 << which;
                }
            }
            if (time < lastOpenings[rank * 4 + oldestOpening[rank]] + distances[F]) {
                broken |= 1 << F;
            }
            return broken;
        }

        private int brokenByAccess(int rank, int bank, long time, int[] distances, boolean isWrite) {
            int at = rank * BANKS_OF_RANK + bank;
            int group = rank * 2 + bank / 2;
            int broken = 0;
            if (time < openedAt[at] + distances[A]) {
                broken |= 1 << A;
            }
            if (time < accessedAt[group ^ 1] + distances[G]) {
                broken |= 1 << G;
            }
            if (time < accessedAt[group] + distances[H]) {
                broken |= 1 << H;
            }
            if (!isWrite && time < rankWrittenTill[rank] + distances[J]) {
                broken |= 1 << J;
            }
            if (time < bankRefreshedAt[at] + distances[P]) {
                broken |= 1 << P;
            }
            int gap = rank != busRank || isWrite != isBusOfWrite ? distances[Q] : 0;
            if (time + distances[isWrite ? M : L] < busyTill + gap) {
                broken |= 1 << Q;
            }
            return broken;
        }

        private int brokenByShutting(int at, long time, int[] distances) {
            int broken = 0;
            if (time < openedAt[at] + distances[C]) {
                broken |= 1 << C;
            }
            if (time < writtenTill[at] + distances[I]) {
                broken |= 1 << I;
            }
            if (time < readAt[at] + distances[K]) {
                broken |= 1 << K;
            }
            if (time < bankRefreshedAt[at] + distances[P]) {
                broken |= 1 << P;
            }
            return broken;
        }

        void put(char letter, int rank, int bank, long time, int[] distances) {
            int at = rank * BANKS_OF_RANK + bank;
            lastAt = time;
            count++;
            switch (letter) {
                case 'a': putOpening(rank, at, time); break;
                case 'r': case 'w': putAccess(rank, bank, time, distances, letter == 'w'); break;
                case 'p': isOpen[at] = false; shutAt[at] = time; break;
                case 'g': bankRefreshedAt[at] = time; break;
                case 'd': isResting[rank] = true; restedAt[rank] = time; break;
                case 'x': isResting[rank] = false; wokenAt[rank] = time; break;
                default: caredAt[rank] = time; break;
            }
        }

        private void putOpening(int rank, int at, long time) {
            isOpen[at] = true;
            openedAt[at] = time;
            lastOpenings[rank * 4 + oldestOpening[rank]] = time;
            oldestOpening[rank] = (oldestOpening[rank] + 1) % 4;
        }

        private void putAccess(int rank, int bank, long time, int[] distances, boolean isWrite) {
            int at = rank * BANKS_OF_RANK + bank;
            long end = time + distances[isWrite ? M : L] + distances[N];
            accessedAt[rank * 2 + bank / 2] = time;
            busyTill = end;
            busRank = rank;
            isBusOfWrite = isWrite;
            if (isWrite) {
                writtenTill[at] = end;
                rankWrittenTill[rank] = end;
            } else {
                readAt[at] = time;
            }
        }
    }

    /** All commands that were issued, and how far they were judged. */
    private static final class Log {
        private static final int NO_NUMBER = 63;
        /** Each command packed: the letter 7 bits, rank 1, bank 2, row or column 6, the clock 1. */
        int[] packed = new int[256];
        int[] cycles = new int[256];
        int count;
        private final Rules judge = new Rules();
        private int judgedCount;
        private boolean isLawfulSoFar = true;

        void add(char letter, int rank, int bank, int number, long cycle, boolean isSlow) {
            if (count >= MOST_COMMANDS) {
                return;
            }
            if (count >= packed.length || count >= cycles.length) {
                packed = Arrays.copyOf(packed, 2 * count);
                cycles = Arrays.copyOf(cycles, 2 * count);
            }
            int stored = number < 0 ? NO_NUMBER : number;
            packed[count] = letter | rank << 7 | bank << 8 | stored << 10 | (isSlow ? 1 << 16 : 0);
            cycles[count] = (int) (cycle & 0x7fffffff);
            count++;
        }

        char letterAt(int index) {
            return (char) (packed[index] & 127);
        }

        int rankAt(int index) {
            return packed[index] >> 7 & 1;
        }

        int bankAt(int index) {
            return packed[index] >> 8 & 3;
        }

        /** The row of an opening, the column of an access, or -1. */
        int numberAt(int index) {
            int stored = packed[index] >> 10 & 63;
            return stored == NO_NUMBER ? -1 : stored;
        }

        /** Judges from where the last judging ended, for what came before can't change. */
        boolean isAllLawful(Settings settings) {
            while (judgedCount < count) {
                char letter = letterAt(judgedCount);
                int rank = rankAt(judgedCount);
                int bank = bankAt(judgedCount);
                boolean isSlow = (packed[judgedCount] >> 16 & 1) == 1;
                int[] distances = isSlow ? settings.slowDistances : settings.fastDistances;
                if (judge.verdict(letter, rank, bank, cycles[judgedCount], distances) != '-') {
                    isLawfulSoFar = false;
                }
                judge.put(letter, rank, bank, cycles[judgedCount], distances);
                judgedCount++;
            }
            return isLawfulSoFar;
        }
    }

    /** Where addresses are: the map, and the rows that stand in for others. */
    private static final class Places {
        private int map;
        private boolean mixes;
        boolean hasNewMap;
        private int newMap;
        private boolean newMixes;
        /** By bank and addressed row, the row that is meant. */
        private final int[] meantRows = new int[BANKS * ADDRESSED_ROWS];
        final int[] sparesTaken = new int[BANKS];

        Places() {
            for (int i = 0; i < meantRows.length; i++) {
                meantRows[i] = i % ADDRESSED_ROWS;
            }
        }

        void tellMap(int told, boolean isMixing) {
            hasNewMap = true;
            newMap = told;
            newMixes = isMixing;
        }

        void takeNewMap() {
            hasNewMap = false;
            map = newMap;
            mixes = newMixes;
        }

        int cellOf(int address) {
            switch (map) {
                case 0: return cellAt(address >> 6 & 1, address >> 4 & 3, address >> 7 & 31, address & 15);
                case 1: return cellAt(address >> 6 & 1, address & 3, address >> 7 & 31, address >> 2 & 15);
                case 2: return cellAt(address >> 11 & 1, address >> 9 & 3, address >> 4 & 31, address & 15);
                default: return cellAt(address & 1, address >> 1 & 3, address >> 7 & 31, address >> 3 & 15);
            }
        }

        private int cellAt(int rank, int bank, int row, int column) {
            int mixed = mixes ? bank ^ row & 3 : bank;
            int meant = meantRows[(rank * BANKS_OF_RANK + mixed) * ADDRESSED_ROWS + row];
            return lineOf(rank, mixed, meant) * COLUMNS + column;
        }

        /** Lets the next spare row of a bank stand in for a row, and tells it. */
        int takeSpare(int bankAt, int row) {
            int spare = ADDRESSED_ROWS + sparesTaken[bankAt];
            sparesTaken[bankAt]++;
            for (int i = bankAt * ADDRESSED_ROWS; i < (bankAt + 1) * ADDRESSED_ROWS; i++) {
                if (meantRows[i] == row) {
                    meantRows[i] = spare;
                }
            }
            return spare;
        }
    }

    /** The codes of words: how they are made, and what they mend. */
    private static final class Codes {
        private static final int LAST_PLACE = 38;
        /** By code bit, the data bits whose place has the bit. */
        private final int[] coveredBits = new int[6];
        /** By place, the data bit, or -1. */
        private final int[] bitAtPlace = new int[64];
        /** The word as the last mending left it. */
        int mendedWord;

        Codes() {
            Arrays.fill(bitAtPlace, -1);
            int bit = 0;
            for (int place = 1; place <= LAST_PLACE; place++) {
                if ((place & place - 1) == 0) {
                    continue;
                }
                bitAtPlace[place] = bit;
                for (int k = 0; k < coveredBits.length; k++) {
                    coveredBits[k] |= (place >> k & 1) << bit;
                }
                bit++;
            }
        }

        int make(char kind, int word) {
            switch (kind) {
                case 's': return makeBits(word);
                case 'c': return makeDigits(word);
                default: return 0;
            }
        }

        private int makeBits(int word) {
            int code = 0;
            for (int k = 0; k < coveredBits.length; k++) {
                code |= (Integer.bitCount(word & coveredBits[k]) & 1) << k;
            }
            return code | (Integer.bitCount(word) + Integer.bitCount(code) & 1) << 6;
        }

        private static int makeDigits(int word) {
            int lower = 0;
            int upper = 0;
            for (int k = 7; k >= 0; k--) {
                int digit = word >>> 4 * k & 15;
                lower ^= digit;
                // What is summed so far belongs to higher digits and is doubled once more for each below.
                upper = twice(upper) ^ digit;
            }
            return upper << 4 | lower;
        }

        private static int twice(int digit) {
            int shifted = digit << 1;
            return shifted > 15 ? shifted ^ 19 : shifted;
        }

        /**
         * Mends a word by the code that was stored and the one made anew of the word, and tells
         * 'r' right, 'm' mended or 'l' lost.
         */
        char mend(char kind, int word, int code, int codeAnew) {
            mendedWord = word;
            switch (kind) {
                case 's': return mendByBits(word, code & 127, (code ^ codeAnew) & 63);
                case 'c': return mendByDigits(word, (code ^ codeAnew) & 255);
                default: return 'r';
            }
        }

        private char mendByBits(int word, int code, int place) {
            boolean isOdd = (Integer.bitCount(word) + Integer.bitCount(code) & 1) == 1;
            if (!isOdd) {
                return place == 0 ? 'r' : 'l';
            }
            if (place > LAST_PLACE) {
                return 'l';
            }
            if (bitAtPlace[place] >= 0) {
                mendedWord = word ^ 1 << bitAtPlace[place];
            }
            return 'm';
        }

        private char mendByDigits(int word, int difference) {
            int lower = difference & 15;
            int upper = difference >> 4;
            if (difference == 0) {
                return 'r';
            }
            if (lower == 0 || upper == 0) {
                return 'm';
            }
            int doubled = lower;
            for (int k = 0; k < 8; k++) {
                if (doubled == upper) {
                    mendedWord = word ^ lower << 4 * k;
                    return 'm';
                }
                doubled = twice(doubled);
            }
            return 'l';
        }
    }

    /** The words as they are stored, what is wrong with them, and how they are read. */
    private static final class Cells {
        private final int[] data = new int[WORDS];
        private final int[] codeBits = new int[WORDS];
        private final boolean[] isPoisoned = new boolean[WORDS];
        private final int[] stuckSpots = new int[MOST_FAULTS_TOLD];
        private final boolean[] isStuckAtOne = new boolean[MOST_FAULTS_TOLD];
        int stuckCount;
        private final int[] fadingSpots = new int[MOST_FAULTS_TOLD];
        private final int[] fadingBears = new int[MOST_FAULTS_TOLD];
        int fadingCount;
        private final long[] restoredAt = new long[LINES];
        final int[] faultCounts = new int[LINES];
        final int[] eyeBegins = {4, 4};
        final int[] eyeWidths = {8, 8};
        final int[] delays = {8, 8};
        int warmth = 20;
        char codeKind = 's';
        private final Codes codes = new Codes();
        /** What the last look at a word found: the word, mended, 'r', 'm' or 'l', and its poison. */
        int seenWord;
        char seenAs;
        boolean isSeenPoisoned;

        /** Finds what a reading of a word gives, and changes nothing of it. */
        void look(int cell) {
            int word = data[cell];
            int code = codeBits[cell];
            for (int i = 0; i < stuckCount; i++) {
                if (stuckSpots[i] / BITS == cell) {
                    int bit = stuckSpots[i] % BITS;
                    int one = isStuckAtOne[i] ? 1 : 0;
                    if (bit < 32) {
                        word = word & ~(1 << bit) | one << bit;
                    } else {
                        code = code & ~(1 << bit - 32) | one << bit - 32;
                    }
                }
            }
            if (isOutsideEye(rankOfCell(cell))) {
                word ^= 1;
            }
            seenAs = codes.mend(codeKind, word, code, codes.make(codeKind, word));
            seenWord = codes.mendedWord;
            isSeenPoisoned = isPoisoned[cell] || seenAs == 'l';
        }

        private boolean isOutsideEye(int rank) {
            int begin = eyeBegins[rank] + warmth / 10;
            return delays[rank] < begin || delays[rank] >= begin + eyeWidths[rank];
        }

        void store(int cell, int word, boolean isPoison) {
            data[cell] = word;
            codeBits[cell] = codes.make(codeKind, word);
            isPoisoned[cell] = isPoison;
        }

        /** Stores a word anew as it was mended; its poison stays. */
        void mendStored(int cell, int word) {
            data[cell] = word;
            codeBits[cell] = codes.make(codeKind, word);
        }

        void changeCode(char kind) {
            for (int cell = 0; cell < WORDS; cell++) {
                look(cell);
                codeBits[cell] = codes.make(kind, seenWord);
            }
            codeKind = kind;
        }

        void tuneDelay(int rank) {
            int midst = eyeBegins[rank] + warmth / 10 + (eyeWidths[rank] - 1) / 2;
            delays[rank] = Math.max(0, Math.min(31, midst));
        }

        int turnBit(int cell, int bit) {
            if (bit < 32) {
                data[cell] ^= 1 << bit;
                return data[cell] >>> bit & 1;
            }
            codeBits[cell] ^= 1 << bit - 32;
            return codeBits[cell] >>> bit - 32 & 1;
        }

        boolean sticks(int spot) {
            return isAmong(stuckSpots, stuckCount, spot);
        }

        boolean fades(int spot) {
            return isAmong(fadingSpots, fadingCount, spot);
        }

        private static boolean isAmong(int[] spots, int count, int spot) {
            for (int i = 0; i < count; i++) {
                if (spots[i] == spot) {
                    return true;
                }
            }
            return false;
        }

        void addStuck(int spot, boolean isOne) {
            stuckSpots[stuckCount] = spot;
            isStuckAtOne[stuckCount] = isOne;
            stuckCount++;
        }

        void addFading(int spot, int cycles) {
            fadingSpots[fadingCount] = spot;
            fadingBears[fadingCount] = cycles;
            fadingCount++;
        }

        /** Restores lines from one on; bits that bore too few cycles fade. */
        void restore(int first, int lines, long now) {
            for (int i = 0; i < fadingCount; i++) {
                int line = fadingSpots[i] / (BITS * COLUMNS);
                if (line >= first && line < first + lines) {
                    long age = now - restoredAt[line];
                    if (age > fadingBears[i] || warmth >= 50 && 2 * age > fadingBears[i]) {
                        clearBit(fadingSpots[i]);
                    }
                }
            }
            for (int line = first; line < first + lines; line++) {
                restoredAt[line] = now;
            }
        }

        private void clearBit(int spot) {
            int cell = spot / BITS;
            int bit = spot % BITS;
            if (bit < 32) {
                data[cell] &= ~(1 << bit);
            } else {
                codeBits[cell] &= ~(1 << bit - 32);
            }
        }
    }

    /** What is open, owed, learned, counted and to be done of the chips. */
    private static final class Chips {
        /** By bank, the open row, or -1. */
        final int[] open = new int[BANKS];
        private final int[] openLast = new int[BANKS];
        final int[] lessons = new int[BANKS];
        final int[] openings = new int[LINES];
        final int[] owes = new int[RANKS];
        final int[] turns = new int[RANKS];
        final boolean[] isToTrain = new boolean[RANKS];
        /** By rank, the cycle of its last command. */
        final long[] issuedAt = new long[RANKS];
        /** The lines to be guarded, the first told first. */
        final int[] guards = new int[LINES];
        int guardCount;

        Chips() {
            Arrays.fill(open, -1);
            Arrays.fill(openLast, -1);
            Arrays.fill(lessons, 2);
        }

        boolean hasOpenBank() {
            return hasOpenBank(0) || hasOpenBank(1);
        }

        boolean hasOpenBank(int rank) {
            for (int bank = 0; bank < BANKS_OF_RANK; bank++) {
                if (open[rank * BANKS_OF_RANK + bank] >= 0) {
                    return true;
                }
            }
            return false;
        }

        void openUp(int bankAt, int row, int limit) {
            open[bankAt] = row;
            if (row == openLast[bankAt]) {
                lessons[bankAt] = Math.max(0, lessons[bankAt] - 1);
            } else {
                lessons[bankAt] = Math.min(3, lessons[bankAt] + 1);
            }
            openLast[bankAt] = row;
            int line = bankAt * ROWS + row;
            endGuarding(line);
            openings[line]++;
            if (openings[line] >= limit) {
                openings[line] = 0;
                guard(bankAt, row - 1);
                guard(bankAt, row + 1);
            }
        }

        private void guard(int bankAt, int row) {
            int line = bankAt * ROWS + row;
            if (row < 0 || row >= ADDRESSED_ROWS || guardIndex(line) >= 0 || guardCount >= guards.length) {
                return;
            }
            guards[guardCount] = line;
            guardCount++;
        }

        private int guardIndex(int line) {
            for (int i = 0; i < guardCount; i++) {
                if (guards[i] == line) {
                    return i;
                }
            }
            return -1;
        }

        private void endGuarding(int line) {
            int index = guardIndex(line);
            if (index < 0) {
                return;
            }
            for (int i = index + 1; i < guardCount; i++) {
                guards[i - 1] = guards[i];
            }
            guardCount--;
        }

        boolean hasGuard(int rank) {
            for (int i = 0; i < guardCount; i++) {
                if (guards[i] / (ROWS * BANKS_OF_RANK) == rank) {
                    return true;
                }
            }
            return false;
        }

        void refreshRank(int rank) {
            owes[rank] -= OWED_A_REFRESH;
            countFromZero(lineOf(rank, 0, 0), BANKS_OF_RANK * ROWS);
        }

        void refreshBank(int rank, int bank) {
            owes[rank]--;
            turns[rank] = (bank + 1) % BANKS_OF_RANK;
            countFromZero(lineOf(rank, bank, 0), ROWS);
        }

        private void countFromZero(int first, int lines) {
            for (int line = first; line < first + lines; line++) {
                openings[line] = 0;
            }
        }
    }

    /** A read or a write, of a master or of a patrol. */
    private static final class Request {
        int master;
        int address;
        boolean isWrite;
        /** What a write writes, or a read read. */
        int value;
        int mask;
        boolean isPoison;
        int rank;
        int bank;
        int row;
        int column;
        long broughtAt;
        int cyclesWaited;
        boolean foundOpen;
        boolean isLookedAt;
        boolean isUrgent;
        /** 'w' it waits, 'u' it is under way, 'd' it is done. */
        char stage;
        /** The cycle in which its data end. */
        long endsAt;
        char flag;
        /** What a plain row of words would give to a read. */
        int plainWord;
    }

    /** The requests: those that wait, in the order of their coming, those under way, and all that have a number. */
    private static final class Queue {
        final ArrayList<Request> numbered = new ArrayList<Request>();
        final ArrayList<Request> waiting = new ArrayList<Request>();
        final ArrayList<Request> underWay = new ArrayList<Request>();
        /** Requests of patrols that are done, to be used again. */
        private final ArrayList<Request> idlePatrols = new ArrayList<Request>();
        /** The requests looked at, in their order. */
        final Request[] lookedAt = new Request[2 * MOST_WAITING + 1];
        int lookedAtCount;
        boolean drains;
        final int[] issuedOfMaster = new int[MASTERS + 1];

        int number(Request request) {
            numbered.add(request);
            return numbered.size() - 1;
        }

        int unfinished() {
            return waiting.size() + underWay.size();
        }

        int countWaiting(boolean areWrites, boolean withPatrols) {
            int count = 0;
            for (int i = 0; i < waiting.size(); i++) {
                Request request = waiting.get(i);
                if (request.isWrite == areWrites && (withPatrols || request.master < MASTERS)) {
                    count++;
                }
            }
            return count;
        }

        boolean hasPatrolWaiting() {
            for (int i = 0; i < waiting.size(); i++) {
                if (waiting.get(i).master == MASTERS) {
                    return true;
                }
            }
            return false;
        }

        boolean hasRequestOfMaster() {
            return hasMasterIn(waiting) || hasMasterIn(underWay);
        }

        private static boolean hasMasterIn(ArrayList<Request> requests) {
            for (int i = 0; i < requests.size(); i++) {
                if (requests.get(i).master < MASTERS) {
                    return true;
                }
            }
            return false;
        }

        boolean hasWaitingFor(int rank) {
            for (int i = 0; i < waiting.size(); i++) {
                if (waiting.get(i).rank == rank) {
                    return true;
                }
            }
            return false;
        }

        boolean hasWaitingFor(int rank, int bank, int row) {
            for (int i = 0; i < waiting.size(); i++) {
                Request request = waiting.get(i);
                if (request.rank == rank && request.bank == bank && request.row == row) {
                    return true;
                }
            }
            return false;
        }

        boolean isLookedAtFor(int rank, int bank, int row) {
            for (int i = 0; i < lookedAtCount; i++) {
                Request request = lookedAt[i];
                if (request.rank == rank && request.bank == bank && request.row == row) {
                    return true;
                }
            }
            return false;
        }

        boolean isLookedAtFor(int rank) {
            for (int i = 0; i < lookedAtCount; i++) {
                if (lookedAt[i].rank == rank) {
                    return true;
                }
            }
            return false;
        }

        Request youngestWriteTo(int address) {
            for (int i = waiting.size() - 1; i >= 0; i--) {
                Request request = waiting.get(i);
                if (request.isWrite && request.address == address) {
                    return request;
                }
            }
            return null;
        }

        Request takePatrol() {
            int last = idlePatrols.size() - 1;
            return last >= 0 ? idlePatrols.remove(last) : new Request();
        }

        void givePatrolBack(Request request) {
            idlePatrols.add(request);
        }

        void removeWaiting(Request request) {
            for (int i = 0; i < waiting.size(); i++) {
                if (waiting.get(i) == request) {
                    waiting.remove(i);
                    return;
                }
            }
        }

        void replaceRow(int rank, int bank, int row, int spare) {
            for (int i = 0; i < waiting.size(); i++) {
                Request request = waiting.get(i);
                if (request.rank == rank && request.bank == bank && request.row == row) {
                    request.row = spare;
                }
            }
        }

        /** Finds which requests are looked at in a cycle, and puts them in order. */
        void lookAround(Settings settings, Chips chips) {
            int reads = countWaiting(false, true);
            int writes = countWaiting(true, true);
            if (writes >= settings.numbers[UPPER]) {
                drains = true;
            }
            if (drains && reads > 0 && writes <= settings.numbers[LOWER]) {
                drains = false;
            }
            boolean areWrites = drains || reads == 0;
            lookedAtCount = 0;
            for (int i = 0; i < waiting.size(); i++) {
                Request request = waiting.get(i);
                request.isUrgent = request.cyclesWaited >= settings.numbers[BOUND];
                request.isLookedAt = (request.isUrgent || request.isWrite == areWrites) && !hasOlder(i);
                if (request.isLookedAt && lookedAtCount < lookedAt.length) {
                    insert(request, settings, chips);
                }
            }
        }

        private boolean hasOlder(int index) {
            int address = waiting.get(index).address;
            for (int i = 0; i < index; i++) {
                if (waiting.get(i).address == address) {
                    return true;
                }
            }
            return false;
        }

        private void insert(Request request, Settings settings, Chips chips) {
            int at = lookedAtCount;
            while (at > 0 && isAhead(request, lookedAt[at - 1], settings, chips)) {
                lookedAt[at] = lookedAt[at - 1];
                at--;
            }
            lookedAt[at] = request;
            lookedAtCount++;
        }

        /** Tells whether a request goes ahead of an older one. */
        private boolean isAhead(Request one, Request older, Settings settings, Chips chips) {
            if (one.isUrgent != older.isUrgent) {
                return one.isUrgent;
            }
            boolean isOneOpen = chips.open[one.rank * BANKS_OF_RANK + one.bank] == one.row;
            boolean isOlderOpen = chips.open[older.rank * BANKS_OF_RANK + older.bank] == older.row;
            if (isOneOpen != isOlderOpen) {
                return isOneOpen;
            }
            int priority = settings.priorities[one.master];
            int olderPriority = settings.priorities[older.master];
            if (priority != olderPriority) {
                return priority > olderPriority;
            }
            // Quotients are compared exactly by multiplying across.
            return issuedOfMaster[one.master] * settings.shares[older.master]
                < issuedOfMaster[older.master] * settings.shares[one.master];
        }

        boolean areWordsRight() {
            for (int i = 0; i < numbered.size(); i++) {
                Request request = numbered.get(i);
                if (!request.isWrite && request.stage == 'd' && request.value != request.plainWord) {
                    return false;
                }
            }
            return true;
        }

        long allWaited() {
            long sum = 0;
            for (int i = 0; i < numbered.size(); i++) {
                sum += numbered.get(i).cyclesWaited;
            }
            return sum;
        }
    }

    /** What was spent, waited, mended, lost and done. */
    private static final class Accounts {
        long energySpent;
        final long[] waitsByCause = new long[CAUSES.length()];
        long patrolWaits;
        int mendedWords;
        int lostWords;
        int patrolsDone;
        int issuedRequests;
        int hits;
        int requestsDone;
        long delaySum;

        void spendFor(char letter) {
            switch (letter) {
                case 'a': energySpent += 10; break;
                case 'p': energySpent += 4; break;
                case 'r': case 'w': energySpent += 8; break;
                case 'f': energySpent += 40; break;
                case 'g': energySpent += 12; break;
                case 't': energySpent += 20; break;
                default: energySpent += 1; break;
            }
        }

        void addWait(char cause) {
            int index = CAUSES.indexOf(cause);
            if (index >= 0 && index < waitsByCause.length) {
                waitsByCause[index]++;
            }
        }

        long allWaits() {
            long sum = 0;
            for (int i = 0; i < waitsByCause.length; i++) {
                sum += waitsByCause[i];
            }
            return sum;
        }
    }

    /** What passes in each cycle: what begins with it, the choice of a command, and the accounts. */
    private static final class Keeper {
        final Settings settings = new Settings();
        final Rules rules = new Rules();
        final Log log = new Log();
        final Places places = new Places();
        final Cells cells = new Cells();
        final Chips chips = new Chips();
        final Queue queue = new Queue();
        final Accounts accounts = new Accounts();
        long now;
        /** True from when something was told that can make words other than plain ones. */
        boolean isDisturbed;
        private long movedTill;
        private int patrolAddress;
        /** What a plain row of words would have, and room for words that are moved. */
        private final int[] plainWords = new int[ADDRESSES];
        private final int[] movedWords = new int[ADDRESSES];
        private final boolean[] isMovedPoisoned = new boolean[ADDRESSES];
        private char chosenLetter;
        private int chosenRank;
        private int chosenBank;
        private int chosenRow;
        private Request chosenRequest;

        // ---- requests that come

        boolean refuses(boolean isWrite) {
            return queue.countWaiting(isWrite, false) >= MOST_WAITING
                || places.hasNewMap
                || queue.numbered.size() >= MOST_REQUESTS;
        }

        boolean isCalm() {
            return !places.hasNewMap && !queue.hasRequestOfMaster();
        }

        void bringRead(Request request, int master, int address) {
            placeRequest(request, master, address);
            request.plainWord = plainWords[address];
            Request write = queue.youngestWriteTo(address);
            if (write == null || write.mask != WHOLE_MASK) {
                queue.waiting.add(request);
                return;
            }
            request.value = write.value;
            request.flag = write.isPoison ? 'q' : 'f';
            request.endsAt = now;
            endRequest(request);
        }

        void bringWrite(Request request, int master, int address) {
            placeRequest(request, master, address);
            request.isWrite = true;
            plainWords[address] = merge(plainWords[address], request.value, request.mask);
            isDisturbed = isDisturbed || request.isPoison;
            queue.waiting.add(request);
        }

        private void placeRequest(Request request, int master, int address) {
            int cell = places.cellOf(address);
            request.master = master;
            request.address = address;
            request.rank = rankOfCell(cell);
            request.bank = bankOfCell(cell);
            request.row = rowOfCell(cell);
            request.column = cell % COLUMNS;
            request.broughtAt = now;
            request.cyclesWaited = 0;
            request.stage = 'w';
            request.foundOpen = chips.open[request.rank * BANKS_OF_RANK + request.bank] == request.row;
        }

        private static int merge(int word, int value, int mask) {
            int bits = 0;
            for (int i = 0; i < 4; i++) {
                if ((mask >> i & 1) == 1) {
                    bits |= 255 << 8 * i;
                }
            }
            return word & ~bits | value & bits;
        }

        private void endRequest(Request request) {
            request.stage = 'd';
            if (request.master == MASTERS) {
                accounts.patrolsDone++;
                queue.givePatrolBack(request);
            } else {
                accounts.requestsDone++;
                accounts.delaySum += request.endsAt - request.broughtAt;
            }
        }

        // ---- a cycle

        void passCycle() {
            endRequests();
            if (places.hasNewMap && queue.unfinished() == 0) {
                moveWords();
            }
            oweMore();
            sendPatrol();
            queue.lookAround(settings, chips);
            boolean isChosen = now >= movedTill
                && (wakeRank() || refreshRank(false) || openGuarded() || serveRequest() || trainRank()
                    || refreshRank(true) || shutByPolicy() || putToRest());
            if (isChosen) {
                issue();
            }
            if (isChosen && chosenRequest != null) {
                access(chosenRequest);
            }
            countWaits();
            countEnergy();
            now++;
        }

        private void endRequests() {
            // From the last one on, so that a removal moves none that is still to be looked at.
            for (int i = queue.underWay.size() - 1; i >= 0; i--) {
                Request request = queue.underWay.get(i);
                if (request.endsAt <= now) {
                    queue.underWay.remove(i);
                    endRequest(request);
                }
            }
        }

        private void moveWords() {
            for (int address = 0; address < ADDRESSES; address++) {
                cells.look(places.cellOf(address));
                movedWords[address] = cells.seenWord;
                isMovedPoisoned[address] = cells.isSeenPoisoned;
            }
            places.takeNewMap();
            for (int address = 0; address < ADDRESSES; address++) {
                cells.store(places.cellOf(address), movedWords[address], isMovedPoisoned[address]);
            }
            movedTill = now + CYCLES_OF_A_MOVE;
        }

        private void oweMore() {
            if (isAtMultiple(settings.numbers[INTERVAL])) {
                for (int rank = 0; rank < RANKS; rank++) {
                    chips.owes[rank] += OWED_A_REFRESH;
                }
            }
        }

        /** Tells whether so many cycles have passed once more; as the cycle 0 begins, none have. */
        private boolean isAtMultiple(int cycles) {
            return cycles > 0 && now > 0 && now % cycles == 0;
        }

        private void sendPatrol() {
            if (!isAtMultiple(settings.numbers[PATROL]) || places.hasNewMap || queue.hasPatrolWaiting()) {
                return;
            }
            bringRead(queue.takePatrol(), MASTERS, patrolAddress);
            patrolAddress = (patrolAddress + 1) % ADDRESSES;
        }

        // ---- the choice

        private boolean take(char letter, int rank, int bank) {
            if (rules.misfit(letter, rank, bank) != '-'
                || rules.broken(letter, rank, bank, now, settings.distancesNow()) != 0) {
                return false;
            }
            chosenLetter = letter;
            chosenRank = rank;
            chosenBank = bank;
            chosenRow = -1;
            chosenRequest = null;
            return true;
        }

        private boolean takeOpening(int rank, int bank, int row) {
            boolean isTaken = take('a', rank, bank);
            if (isTaken) {
                chosenRow = row;
            }
            return isTaken;
        }

        /** Tells a rank for which only its waking or its refresh may be issued. */
        private boolean isClosed(int rank) {
            return rules.isResting[rank] || chips.owes[rank] >= MOST_OWED;
        }

        private boolean wakeRank() {
            for (int rank = 0; rank < RANKS; rank++) {
                boolean isWanted = rules.isResting[rank]
                    && (queue.isLookedAtFor(rank) || chips.hasGuard(rank)
                        || chips.isToTrain[rank] || chips.owes[rank] >= OWED_A_REFRESH);
                if (isWanted && take('x', rank, 0)) {
                    return true;
                }
            }
            return false;
        }

        private boolean refreshRank(boolean isAhead) {
            for (int rank = 0; rank < RANKS; rank++) {
                if (rules.isResting[rank]) {
                    continue;
                }
                boolean isDue = isAhead
                    ? settings.numbers[DRAWN_AHEAD] == 1 && !queue.hasWaitingFor(rank)
                        && chips.owes[rank] > -MOST_OWED
                    : chips.owes[rank] >= MOST_OWED;
                if (isDue && takeRefresh(rank)) {
                    return true;
                }
            }
            return false;
        }

        private boolean takeRefresh(int rank) {
            if (settings.numbers[BY_BANKS] == 1) {
                int bank = chips.turns[rank];
                boolean isOpen = chips.open[rank * BANKS_OF_RANK + bank] >= 0;
                return take(isOpen ? 'p' : 'g', rank, bank);
            }
            return shutLowest(rank) || take('f', rank, 0);
        }

        private boolean shutLowest(int rank) {
            for (int bank = 0; bank < BANKS_OF_RANK; bank++) {
                if (take('p', rank, bank)) {
                    return true;
                }
            }
            return false;
        }

        private boolean openGuarded() {
            for (int i = 0; i < chips.guardCount; i++) {
                int bankAt = chips.guards[i] / ROWS;
                int rank = bankAt / BANKS_OF_RANK;
                int bank = bankAt % BANKS_OF_RANK;
                int row = chips.guards[i] % ROWS;
                int open = chips.open[bankAt];
                if (isClosed(rank) || open == row) {
                    continue;
                }
                if (open >= 0 ? take('p', rank, bank) : takeOpening(rank, bank, row)) {
                    return true;
                }
            }
            return false;
        }

        private boolean serveRequest() {
            for (int i = 0; i < queue.lookedAtCount; i++) {
                Request request = queue.lookedAt[i];
                if (!isClosed(request.rank) && takeFor(request)) {
                    return true;
                }
            }
            return false;
        }

        private boolean takeFor(Request request) {
            int rank = request.rank;
            int bank = request.bank;
            int open = chips.open[rank * BANKS_OF_RANK + bank];
            char next = nextFor(request);
            if (next == 'a') {
                return takeOpening(rank, bank, request.row);
            }
            if (next == 'p') {
                return (request.isUrgent || !queue.isLookedAtFor(rank, bank, open)) && take('p', rank, bank);
            }
            boolean isTaken = take(next, rank, bank);
            if (isTaken) {
                chosenRequest = request;
            }
            return isTaken;
        }

        /** Tells the command that is to be issued for a request, as things are. */
        private char nextFor(Request request) {
            int open = chips.open[request.rank * BANKS_OF_RANK + request.bank];
            if (open == request.row) {
                return request.isWrite ? 'w' : 'r';
            }
            return open >= 0 ? 'p' : 'a';
        }

        private boolean trainRank() {
            for (int rank = 0; rank < RANKS; rank++) {
                if (chips.isToTrain[rank] && !isClosed(rank) && (shutLowest(rank) || take('t', rank, 0))) {
                    return true;
                }
            }
            return false;
        }

        private boolean shutByPolicy() {
            if (settings.rowPolicy == 'o') {
                return false;
            }
            for (int bankAt = 0; bankAt < BANKS; bankAt++) {
                int rank = bankAt / BANKS_OF_RANK;
                int bank = bankAt % BANKS_OF_RANK;
                int open = chips.open[bankAt];
                boolean isToldShut = settings.rowPolicy == 'c' || chips.lessons[bankAt] >= 2;
                if (open >= 0 && isToldShut && !isClosed(rank)
                    && !queue.hasWaitingFor(rank, bank, open) && take('p', rank, bank)) {
                    return true;
                }
            }
            return false;
        }

        private boolean putToRest() {
            int needed = settings.numbers[REST];
            if (needed == 0) {
                return false;
            }
            for (int rank = 0; rank < RANKS; rank++) {
                boolean isIdle = !queue.hasWaitingFor(rank) && !chips.hasGuard(rank) && !chips.isToTrain[rank]
                    && chips.owes[rank] < OWED_A_REFRESH && now - chips.issuedAt[rank] >= needed;
                if (isIdle && take('d', rank, 0)) {
                    return true;
                }
            }
            return false;
        }

        // ---- what a command does

        private void issue() {
            int bankAt = chosenRank * BANKS_OF_RANK + chosenBank;
            int number = chosenRequest == null ? chosenRow : chosenRequest.column;
            rules.put(chosenLetter, chosenRank, chosenBank, now, settings.distancesNow());
            log.add(chosenLetter, chosenRank, chosenBank, number, now, settings.isSlow);
            accounts.spendFor(chosenLetter);
            chips.issuedAt[chosenRank] = now;
            switch (chosenLetter) {
                case 'a':
                    chips.openUp(bankAt, chosenRow, settings.numbers[OPENINGS]);
                    cells.restore(bankAt * ROWS + chosenRow, 1, now);
                    break;
                case 'p':
                    chips.open[bankAt] = -1;
                    break;
                case 'f':
                    chips.refreshRank(chosenRank);
                    cells.restore(lineOf(chosenRank, 0, 0), BANKS_OF_RANK * ROWS, now);
                    break;
                case 'g':
                    chips.refreshBank(chosenRank, chosenBank);
                    cells.restore(bankAt * ROWS, ROWS, now);
                    break;
                case 't':
                    chips.isToTrain[chosenRank] = false;
                    cells.tuneDelay(chosenRank);
                    break;
                default:
                    break;
            }
        }

        /** Reads or writes the word of a request whose command is issued. */
        private void access(Request request) {
            int[] distances = settings.distancesNow();
            request.stage = 'u';
            request.endsAt = now + distances[request.isWrite ? M : L] + distances[N];
            queue.removeWaiting(request);
            queue.underWay.add(request);
            queue.issuedOfMaster[request.master]++;
            accounts.issuedRequests++;
            if (request.foundOpen) {
                accounts.hits++;
            }
            int cell = lineOf(request.rank, request.bank, request.row) * COLUMNS + request.column;
            if (request.isWrite) {
                writeWord(request, cell);
                return;
            }
            readWord(request, cell);
            if (cells.seenAs != 'r') {
                countFault(request.rank, request.bank, request.row);
            }
        }

        private void writeWord(Request request, int cell) {
            if (request.mask == WHOLE_MASK) {
                cells.store(cell, request.value, request.isPoison);
                return;
            }
            cells.look(cell);
            int word = merge(cells.seenWord, request.value, request.mask);
            cells.store(cell, word, request.isPoison || cells.isSeenPoisoned);
        }

        private void readWord(Request request, int cell) {
            cells.look(cell);
            char seenAs = cells.seenAs;
            request.value = cells.seenWord;
            request.flag = seenAs != 'l' && cells.isSeenPoisoned ? 'p' : seenAs;
            if (seenAs == 'l') {
                accounts.lostWords++;
            }
            if (seenAs == 'm') {
                accounts.mendedWords++;
            }
            if (seenAs == 'm' && request.master == MASTERS) {
                cells.mendStored(cell, cells.seenWord);
            }
        }

        private void countFault(int rank, int bank, int row) {
            int bankAt = rank * BANKS_OF_RANK + bank;
            int line = bankAt * ROWS + row;
            cells.faultCounts[line]++;
            if (cells.faultCounts[line] < FAULTS_TO_REPLACE || settings.numbers[SPARES_USED] == 0
                || places.sparesTaken[bankAt] >= SPARE_ROWS) {
                return;
            }
            int spare = places.takeSpare(bankAt, row);
            int spareLine = bankAt * ROWS + spare;
            for (int column = 0; column < COLUMNS; column++) {
                cells.look(line * COLUMNS + column);
                cells.store(spareLine * COLUMNS + column, cells.seenWord, cells.isSeenPoisoned);
            }
            queue.replaceRow(rank, bank, row, spare);
        }

        // ---- accounts of a cycle

        private void countWaits() {
            for (int i = 0; i < queue.waiting.size(); i++) {
                Request request = queue.waiting.get(i);
                accounts.addWait(causeFor(request));
                request.cyclesWaited++;
                if (request.master == MASTERS) {
                    accounts.patrolWaits++;
                }
            }
        }

        private char causeFor(Request request) {
            if (chips.owes[request.rank] >= MOST_OWED || now < movedTill) {
                return 'f';
            }
            if (rules.isResting[request.rank]) {
                return 'd';
            }
            if (!request.isLookedAt) {
                return 'h';
            }
            int broken = rules.broken(nextFor(request), request.rank, request.bank, now, settings.distancesNow());
            if ((broken & SHARED) != 0) {
                return 's';
            }
            return broken != 0 ? 'b' : 'q';
        }

        private void countEnergy() {
            for (int rank = 0; rank < RANKS; rank++) {
                if (rules.isResting[rank]) {
                    accounts.energySpent += 1;
                } else {
                    accounts.energySpent += chips.hasOpenBank(rank) ? 3 : 2;
                }
            }
        }
    }
}
