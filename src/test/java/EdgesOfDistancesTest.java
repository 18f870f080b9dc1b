/** Each distance: the last cycle in which a command breaks it, and the first one in which none does. */
final class EdgesOfDistancesTest {
    private static final int[] FIRST = {4, 4, 9, 2, 3, 12, 2, 3, 5, 4, 3, 4, 3, 2, 20, 10, 1, 3, 4};

    private EdgesOfDistancesTest() {
    }

    /** A new object with all distances as low as can be, but one. */
    private static Dramwright with(char which, int cycles, boolean isSlow) {
        Dramwright d = new Dramwright();
        for (char other = 'A'; other <= 'S'; other++) {
            d.distance(other, other == 'Q' ? 0 : 1);
        }
        d.distance(which, cycles);
        d.slow(isSlow);
        return d;
    }

    /** Judges the commands of a text, such as "a00 r00", each as few cycles behind the one before as can be. */
    private static void judge(Dramwright d, String trace) {
        for (String step : trace.split(" ")) {
            int cycles = 1;
            while (judge(d, step, cycles) != '-') {
                cycles++;
                Check.isTrue("can be issued: " + step, cycles < 300);
            }
        }
    }

    private static char judge(Dramwright d, String step, int cycles) {
        return d.judge(step.charAt(0), step.charAt(1) - '0', step.charAt(2) - '0', cycles);
    }

    /** Behind a trace a command is too early by a distance until as many cycles have passed. */
    private static void keeps(char which, int least, Dramwright d, String trace, String next) {
        judge(d, trace);
        if (least > 1) {
            Check.same(next + " a cycle too early behind " + trace, judge(d, next, least - 1), which);
        }
        Check.same(next + " in time behind " + trace, judge(d, next, least), '-');
    }

    /** A distance from the last command of a trace to another one, by each of its values at the edges. */
    private static void keepsEach(char which, String trace, String... nexts) {
        for (String next : nexts) {
            for (int cycles : new int[] {2, 3, 4, 98, 99, FIRST[which - 'A']}) {
                keeps(which, cycles, with(which, cycles, false), trace, next);
                keeps(which, (cycles + 1) / 2, with(which, cycles, true), trace, next);
            }
            keeps(which, 1, with(which, 1, false), trace, next);
            keeps(which, 1, with(which, 1, true), trace, next);
        }
    }

    /** A distance is not from a trace to any of these. */
    private static void isFree(char which, String trace, String... nexts) {
        for (String next : nexts) {
            Dramwright d = with(which, 99, false);
            judge(d, trace);
            char verdict = judge(d, next, 90);
            Check.same(next + " behind " + trace, verdict, '-');
        }
    }

    static void distanceA() {
        keepsEach('A', "a00", "r00", "w00");
        isFree('A', "a00", "p00", "a01", "a10", "g01");
        isFree('A', "a00 a02", "p00", "p02");
    }

    static void distanceB() {
        keepsEach('B', "a01 p01", "a01", "g01", "f00", "d00", "t03");
        isFree('B', "a01 p01", "a00", "a02", "g00", "f10", "d10", "t10", "a11");
    }

    static void distanceC() {
        keepsEach('C', "a03", "p03");
        isFree('C', "a03", "r03", "w03", "a02");
    }

    static void distanceD() {
        keepsEach('D', "a00", "a02", "a03");
        keepsEach('D', "a03", "a00", "a01");
        isFree('D', "a00", "a01", "a10", "a12", "r00", "p00", "g02");
    }

    static void distanceE() {
        keepsEach('E', "a00", "a01");
        keepsEach('E', "a03", "a02");
        isFree('E', "a00", "a02", "a10", "a11", "g01");
        isFree('E', "a00 p00", "a00");
    }

    static void distanceF() {
        for (int cycles : new int[] {5, 6, 12, 98, 99}) {
            for (int slow = 0; slow < 2; slow++) {
                Dramwright d = with('F', cycles, slow == 1);
                int kept = slow == 1 ? (cycles + 1) / 2 : cycles;
                judge(d, "a00 a01 a02 a03 p00");
                int passed = 4;
                if (kept - passed > 1) {
                    Check.same("the fourth behind the first", d.judge('a', 0, 0, kept - passed - 1), 'F');
                }
                Check.same("in time", d.judge('a', 0, 0, Math.max(1, kept - passed)), '-');
            }
        }
        isFree('F', "a00 a01 a02 p00", "a03", "a00");
        isFree('F', "a00 a01 a10 a11", "a02", "a12", "a03");
    }

    static void distanceFIsFromEachOfThem() {
        Dramwright d = with('F', 50, false);
        judge(d, "a00 p00 a00 p00 a00 p00 a00 p00");
        Check.same("50 from the first one, 7 have passed", d.judge('a', 0, 0, 42), 'F');
        Check.same("43 more", d.judge('a', 0, 0, 43), '-');
        for (String step : "p00 a00 p00 a00 p00 a00 p00".split(" ")) {
            Check.same("50 from the others are kept, too, for they were 2 apart", judge(d, step, 1), '-');
        }
    }

    static void distanceFGoesOnWithTheRing() {
        Dramwright d = with('F', 50, false);
        judge(d, "a00 p00 a00 p00 a00 p00 a00 p00");
        d.judge('a', 0, 0, 43);
        judge(d, "p00 a00 p00 a00 p00 a00 p00");
        Check.same("p at 58, the fourth behind the one at 51", d.judge('a', 0, 0, 42), 'F');
        Check.same("50 behind it", d.judge('a', 0, 0, 43), '-');
    }

    static void distanceG() {
        for (String first : new String[] {"r00", "w00"}) {
            keepsEach('G', "a00 a02 a03 " + first, first.charAt(0) + "02", first.charAt(0) + "03");
            isFree('G', "a00 a01 a02 a10 a12 " + first, "p02", "r01", "r10", "r12");
        }
        keepsAfterGap('G', "a00 a02 r00", "w02");
        keepsAfterGap('G', "a00 a02 w00", "r02");
    }

    static void distanceH() {
        for (String first : new String[] {"r02", "w02"}) {
            keepsEach('H', "a02 a03 " + first, first.charAt(0) + "02", first.charAt(0) + "03");
            isFree('H', "a00 a01 a02 a12 " + first, "p01", "r00", "w00", "r12", "w12");
        }
        keepsAfterGap('H', "a00 a01 r00", "w01");
        keepsAfterGap('H', "a00 r00", "w00");
        keepsAfterGap('H', "a00 w00", "r00");
    }

    /** As keepsEach, with values above what data on the bus and J ask for. */
    private static void keepsAfterGap(char which, String trace, String next) {
        for (int cycles : new int[] {10, 11, 98, 99}) {
            keeps(which, cycles, with(which, cycles, false), trace, next);
            keeps(which, (cycles + 1) / 2, with(which, cycles, true), trace, next);
        }
    }

    static void distanceIIsFromTheEndOfTheData() {
        for (int cycles : new int[] {1, 2, 5, 98, 99}) {
            for (int slow = 0; slow < 2; slow++) {
                Dramwright d = with('I', cycles, slow == 1);
                d.distance('M', 5);
                d.distance('N', 7);
                int kept = slow == 1 ? (cycles + 1) / 2 : cycles;
                int end = (slow == 1 ? 3 : 5) + 7;
                judge(d, "a00 a01 w00");
                Check.same("a cycle too early", d.judge('p', 0, 0, end + kept - 1), 'I');
                Check.same("another bank", d.judge('p', 0, 1, 1), '-');
                Check.same("in time", d.judge('p', 0, 0, end + kept - 1), '-');
            }
        }
        isFree('I', "a00 a10 r00", "p00", "p10");
        isFree('I', "a00 w00", "r00", "w00", "a01");
    }

    static void distanceJIsFromTheEndOfTheData() {
        for (int cycles : new int[] {1, 2, 4, 98, 99}) {
            for (int slow = 0; slow < 2; slow++) {
                for (String next : new String[] {"r00", "r01", "r02"}) {
                    Dramwright d = with('J', cycles, slow == 1);
                    d.distance('M', 5);
                    d.distance('N', 7);
                    int kept = slow == 1 ? (cycles + 1) / 2 : cycles;
                    int end = (slow == 1 ? 3 : 5) + 7;
                    judge(d, "a00 a01 a02 w00");
                    Check.same(next + " a cycle too early", judge(d, next, end + kept - 1), 'J');
                    Check.same(next + " in time", judge(d, next, end + kept), '-');
                }
            }
        }
        isFree('J', "a00 a02 a10 w00", "w00", "w02", "r10", "p00", "p02");
    }

    static void distanceK() {
        keepsEach('K', "a00 r00", "p00");
        isFree('K', "a00 a01 r00", "p01", "r00", "r01");
        isFree('K', "a00 w00", "p00");
    }

    static void distancesLAndMAndNAreOfTheData() {
        int[][] cases = {{4, 3, 2, 0}, {9, 1, 5, 0}, {1, 9, 1, 3}, {7, 8, 99, 9}, {5, 6, 3, 1}};
        for (int[] one : cases) {
            for (int slow = 0; slow < 2; slow++) {
                for (String pair : new String[] {"r00 r10", "w00 w10", "r00 w10", "w00 r10", "r00 w01", "r00 r02", "w00 w02"}) {
                    Dramwright d = with('L', one[0], slow == 1);
                    d.distance('M', one[1]);
                    d.distance('N', one[2]);
                    d.distance('Q', one[3]);
                    int[] kept = one.clone();
                    for (int i = 0; i < 4 && slow == 1; i++) {
                        kept[i] = i == 2 ? one[i] : (one[i] + 1) / 2;
                    }
                    String[] steps = pair.split(" ");
                    boolean isReadFirst = steps[0].charAt(0) == 'r';
                    boolean isReadNext = steps[1].charAt(0) == 'r';
                    boolean hasGap = steps[0].charAt(1) != steps[1].charAt(1) || isReadFirst != isReadNext;
                    int end = (isReadFirst ? kept[0] : kept[1]) + kept[2] + (hasGap ? kept[3] : 0);
                    int least = Math.max(1, end - (isReadNext ? kept[0] : kept[1]));
                    judge(d, "a00 a01 a02 a10 " + steps[0]);
                    if (least > 1) {
                        Check.same(pair + " too early", judge(d, steps[1], least - 1), 'Q');
                    }
                    Check.same(pair + " in time", judge(d, steps[1], least), '-');
                }
            }
        }
    }

    static void distanceQFrom0To9() {
        for (int gap = 0; gap <= 9; gap++) {
            for (int slow = 0; slow < 2; slow++) {
                int kept = slow == 1 ? (gap + 1) / 2 : gap;
                for (String next : new String[] {"r10", "w10", "w00", "w01"}) {
                    Dramwright d = with('Q', gap, slow == 1);
                    d.distance('N', 3);
                    judge(d, "a00 a01 a10 r00");
                    Check.same(next + " a cycle too early", judge(d, next, 2 + kept), 'Q');
                    Check.same(next + " in time", judge(d, next, 3 + kept), '-');
                }
                for (String next : new String[] {"r00", "r01", "r02"}) {
                    Dramwright d = with('Q', gap, slow == 1);
                    d.distance('N', 3);
                    judge(d, "a00 a01 a02 r00");
                    Check.same(next + " over the data", judge(d, next, 2), 'Q');
                    Check.same(next + " without a gap", judge(d, next, 3), '-');
                }
            }
        }
    }

    static void distanceO() {
        keepsEach('O', "f00", "a00", "a03", "g01", "f00", "d00", "t00");
        keepsEach('O', "t00", "a00", "a03", "g01", "f00", "d00", "t00");
        isFree('O', "f00", "a10", "g12", "f10", "d10", "t10");
        isFree('O', "t10", "a00", "g02", "f00", "d00", "t00");
    }

    static void distanceP() {
        keepsEach('P', "g02", "a02", "g02", "f00", "d00", "t00");
        isFree('P', "g02", "a00", "a03", "g03", "g01", "a12", "f10", "d10", "t10");
    }

    static void distancePIsToAnythingOfTheBank() {
        for (String next : new String[] {"r02", "w02", "p02"}) {
            Dramwright d = with('P', 99, true);
            judge(d, "g02");
            Check.same("half of it, rounded up", d.judge('a', 0, 2, 50), '-');
            d.slow(false);
            Check.same(next + " with the fast clock", judge(d, next, 48), 'P');
            Check.same(next + " 99 behind the g", judge(d, next, 49), '-');
        }
    }

    static void distanceR() {
        keepsEach('R', "d00 x00", "a00", "a03", "g01", "f00", "t00", "d00");
        isFree('R', "d00 x00", "a10", "f10", "d10");
    }

    static void distanceS() {
        keepsEach('S', "d00", "x00");
        keepsEach('S', "d00 x00", "d00");
        isFree('S', "d00 x00", "a00", "g00", "f00", "t00", "d10");
    }

    static void withTheSlowClockAllButNCountHalfRoundedUp() {
        for (int cycles = 1; cycles <= 9; cycles++) {
            for (char which : "ALMN".toCharArray()) {
                Dramwright d = with(which, cycles, true);
                if (which == 'M') {
                    d.write(0, 0, 1, 15, false);
                } else {
                    d.read(0, 0);
                }
                d.finish(300);
                int counted = which == 'N' ? cycles : (cycles + 1) / 2;
                Check.same(which + " " + cycles, d.doneAt(0), 2L + counted);
            }
        }
    }

    static void withTheFastClockAgainAllCountWhole() {
        Dramwright d = with('A', 9, true);
        d.slow(false);
        Check.finishedRead(d, 0, 0);
        Check.same("A 9", Check.trace(d), "a00:0@0 r00:0@9");
    }

    static void commandsAreIssuedInTheFirstCycleThatKeepsThem() {
        int[] cycles = {4, 1, 99};
        for (int a : cycles) {
            for (int b : cycles) {
                Dramwright d = new Dramwright();
                d.distance('A', a);
                d.distance('B', b);
                d.distance('C', 99);
                Check.finishedRead(d, 0, 0);
                Check.finishedRead(d, 0, 128);
                int shut = Math.max(99, a + 7);
                Check.same("A " + a + " B " + b, Check.trace(d), "a00:0@0 r00:0@" + a + " p00@" + shut + " a00:1@"
                    + (shut + b) + " r00:0@" + (shut + b + a));
            }
        }
    }
}
