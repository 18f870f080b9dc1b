/** The boundary cases of the promises 23 to 33, each one on both sides. */
final class EdgesOfChipsTest {
    private EdgesOfChipsTest() {
    }

    /** A call with a number. */
    private interface NumberCall {
        Object make(Dramwright d, int number);
    }

    /** The numbers from 0 to the last one are taken, the others are not, in any state. */
    private static void takesFromZero(String what, int last, NumberCall call) {
        for (int number = 0; number <= last; number++) {
            call.make(new Dramwright(), number);
        }
        for (int number : Check.FAR) {
            Check.outOfBounds(what + " " + number, () -> call.make(new Dramwright(), number));
        }
        Twins.outOfBounds(what + " " + (last + 1), Twins::busy, d -> call.make(d, last + 1));
        Twins.outOfBounds(what + " -1", Twins::busy, d -> call.make(d, -1));
    }

    static void openRowTakesRanks0And1AndBanks0To3() {
        takesFromZero("rank", 1, (d, rank) -> d.openRow(rank, 0));
        takesFromZero("bank", 3, (d, bank) -> d.openRow(1, bank));
    }

    static void owedTakesRanks0And1() {
        takesFromZero("rank", 1, (d, rank) -> d.owed(rank));
    }

    static void restsTakesRanks0And1() {
        takesFromZero("rank", 1, (d, rank) -> d.rests(rank));
    }

    static void learnedTakesRanks0And1AndBanks0To3() {
        takesFromZero("rank", 1, (d, rank) -> d.learned(rank, 3));
        takesFromZero("bank", 3, (d, bank) -> d.learned(1, bank));
    }

    static void openedTakesRanksBanksAndRows0To33() {
        takesFromZero("rank", 1, (d, rank) -> d.opened(rank, 3, 33));
        takesFromZero("bank", 3, (d, bank) -> d.opened(1, bank, 33));
        takesFromZero("row", 33, (d, row) -> d.opened(1, 3, row));
    }

    static void faultsTakesRanksBanksAndRows0To33() {
        takesFromZero("rank", 1, (d, rank) -> d.faults(rank, 3, 33));
        takesFromZero("bank", 3, (d, bank) -> d.faults(1, bank, 33));
        takesFromZero("row", 33, (d, row) -> d.faults(1, 3, row));
    }

    static void sparesTakesRanks0And1AndBanks0To3() {
        takesFromZero("rank", 1, (d, rank) -> d.spares(rank, 3));
        takesFromZero("bank", 3, (d, bank) -> d.spares(1, bank));
    }

    static void delayTakesRanks0And1() {
        takesFromZero("rank", 1, (d, rank) -> d.delay(rank));
    }

    static void trainTakesRanks0And1() {
        takesFromZero("rank", 1, (d, rank) -> d.train(rank));
    }

    static void openRowIsOfEachRowOfEachBank() {
        for (int bankAt = 0; bankAt < 8; bankAt++) {
            for (int row = 0; row < 32; row += 31) {
                Dramwright d = new Dramwright();
                d.read(0, Check.at(bankAt / 4, bankAt % 4, row, 0));
                Check.same("shut", d.openRow(bankAt / 4, bankAt % 4), -1);
                d.go(1);
                for (int other = 0; other < 8; other++) {
                    Check.same("bank " + other, d.openRow(other / 4, other % 4), other == bankAt ? row : -1);
                }
                d.finish(50);
                d.rows('c');
                d.go(1);
                Check.same("shut again", d.openRow(bankAt / 4, bankAt % 4), -1);
            }
        }
    }

    static void openRowMayBeASpareOneOrOneThatWasReplaced() {
        Dramwright d = new Dramwright();
        d.policy('s', 1);
        d.stick(0, 0, 9, 0, 0, true);
        for (int i = 0; i < 3; i++) {
            Check.finishedRead(d, 0, Check.at(0, 0, 9, 0));
        }
        Check.same("the row that was replaced is still open", d.openRow(0, 0), 9);
        Check.finishedRead(d, 0, Check.at(0, 0, 9, 0));
        Check.same("the spare row", d.openRow(0, 0), 32);
    }

    static void owedGoesFrom0Up() {
        Dramwright d = new Dramwright();
        d.policy('i', 50);
        Check.same("at first", d.owed(0) + d.owed(1), 0);
        for (int due = 0; due <= 28; due += 4) {
            d.go(50);
            Check.same("the multiple is next, and not yet owed", d.owed(0) * 100 + d.owed(1), due * 101);
        }
        d.go(1);
        Check.same("an f of the rank 0 as 32 are owed", d.owed(0) * 100 + d.owed(1), 2832);
    }

    static void learnedIsFrom0To3() {
        Dramwright d = new Dramwright();
        d.rows('c');
        int[] rows = {0, 0, 0, 0, 0, 1, 2, 3, 4, 4, 5};
        int[] due = {3, 2, 1, 0, 0, 1, 2, 3, 3, 2, 3};
        Check.same("at first", d.learned(0, 0), 2);
        for (int i = 0; i < rows.length; i++) {
            Check.finishedRead(d, 0, Check.at(0, 0, rows[i], 0));
            d.go(20);
            Check.same("behind " + i, d.learned(0, 0), due[i]);
        }
    }

    static void learnedOfABankAloneAndOfTheRowThatWasOpenLast() {
        Dramwright d = new Dramwright();
        d.rows('c');
        int[] banks = {0, 1, 0, 1, 0, 1};
        for (int bank : banks) {
            Check.finishedRead(d, 0, Check.at(0, bank, 6 + bank, 0));
            d.go(20);
        }
        Check.same("the same row of each bank three times", d.learned(0, 0) * 10 + d.learned(0, 1), 11);
        Check.same("others are as at first", d.learned(0, 2) + d.learned(1, 0) + d.learned(1, 1), 6);
    }

    static void openedCountsFrom0ToTheLimit() {
        Dramwright d = new Dramwright();
        d.policy('h', 3);
        d.rows('c');
        int[] due = {1, 2, 0, 1, 2, 0};
        for (int i = 0; i < due.length; i++) {
            Check.same("guarded, ahead of " + i, d.guarded(), 0);
            d.read(0, Check.at(1, 1, 0, 0));
            d.go(1);
            Check.same("as often as the limit tells, it is 0", d.opened(1, 1, 0), due[i]);
            Check.same("and the neighbour is to be guarded", d.guarded(), due[i] == 0 ? 1 : 0);
            d.finish(100);
            d.go(100);
        }
        Check.same("the neighbour was opened twice", d.opened(1, 1, 1), 2);
    }

    static void guardedIsWhatIsLeft() {
        Dramwright d = new Dramwright();
        d.policy('h', 2);
        d.rows('c');
        Check.finishedRead(d, 0, Check.at(0, 0, 5, 0));
        d.go(50);
        Check.same("none", d.guarded(), 0);
        d.read(0, Check.at(0, 0, 5, 0));
        d.go(1);
        Check.same("two", d.guarded(), 2);
        Check.goWhile(d, () -> d.guarded() == 2);
        Check.same("two until the a of the first one", Check.trace(d).indexOf("a00:4"), Check.trace(d).lastIndexOf("a"));
        Check.same("one then", d.guarded(), 1);
        Check.goWhile(d, () -> d.guarded() == 1);
        Check.same("until the a of the second one", Check.trace(d).indexOf("a00:6"), Check.trace(d).lastIndexOf("a"));
        Check.same("none", d.guarded(), 0);
    }

    static void commandTakesIndicesBelowTheCount() {
        Dramwright d = new Dramwright();
        Check.outOfBounds("none at first", () -> d.command(0, 't'));
        d.read(0, 0);
        d.go(1);
        Check.same("the first one", (char) d.command(0, 't'), 'a');
        Check.outOfBounds("none behind it", () -> d.command(1, 't'));
        d.go(4);
        Check.same("the last one", (char) d.command(1, 't'), 'r');
        Check.outOfBounds("none behind it", () -> d.command(2, 't'));
        for (int far : Check.FAR) {
            Check.outOfBounds("far " + far, () -> d.command(far, 't'));
        }
        Twins.outOfBounds("-1", Twins::busy, e -> e.command(-1, 'k'));
        Twins.outOfBounds("one too many", Twins::busy, e -> e.command(e.commands(), 'k'));
    }

    static void commandTakesKBRTAndC() {
        Dramwright d = new Dramwright();
        d.read(0, 0);
        d.go(1);
        for (int letter = 0; letter < 256; letter++) {
            char what = (char) letter;
            if ("kbrtc".indexOf(what) < 0) {
                Check.illegal("letter " + letter, () -> d.command(0, what));
            }
        }
        Twins.illegal("no such thing", Twins::busy, e -> e.command(0, 'a'));
        Twins.outOfBounds("the index is listed first", Twins::busy, e -> e.command(-1, 'a'));
        Twins.outOfBounds("the index is listed first", Twins::busy, e -> e.command(e.commands(), 'a'));
    }

    /** Finds the first command with a letter, from one on. */
    private static int find(Dramwright d, char letter, int from) {
        for (int i = from; i < d.commands(); i++) {
            if (d.command(i, 't') == letter) {
                return i;
            }
        }
        throw new AssertionError("no " + letter + " in " + Check.trace(d));
    }

    static void commandOfEachLetter() {
        Dramwright d = new Dramwright();
        d.rows('c');
        Check.finishedWrite(d, 0, Check.at(1, 3, 31, 15), 1);
        Check.finishedRead(d, 0, Check.at(1, 3, 31, 15));
        d.train(1);
        d.go(60);
        d.policy('a', 1);
        d.go(1);
        d.policy('g', 1);
        d.go(30);
        d.policy('a', 0);
        d.policy('g', 0);
        d.policy('r', 5);
        d.go(50);
        d.read(0, Check.at(1, 0, 0, 0));
        d.go(20);
        String letters = "arwpfgdxt";
        int[] numbers = {31, 15, 15, -1, -1, -1, -1, -1, -1};
        int[] banks = {3, 3, 3, 3, -1, 0, -1, -1, -1};
        int[] ranks = {1, 1, 1, 1, 0, 1, 1, 1, 1};
        for (int i = 0; i < letters.length(); i++) {
            int index = find(d, letters.charAt(i), 0);
            Check.same("number of " + letters.charAt(i), d.command(index, 'r'), numbers[i]);
            Check.same("bank of " + letters.charAt(i), d.command(index, 'b'), banks[i]);
            Check.same("rank of " + letters.charAt(i), d.command(index, 'k'), ranks[i]);
        }
        Check.same("the first cycle", d.command(0, 'c'), 0);
    }

    static void commandTellsTheCycleWhole() {
        Dramwright d = new Dramwright();
        Check.pass(d, 150 * 500 + 60);
        int cycle = (int) d.cycle();
        int before = d.commands();
        Check.finishedRead(d, 0, 0);
        Check.same("far from 0", d.command(find(d, 'r', before), 'c'), cycle + 4);
    }

    static void commandsCountFrom0() {
        Dramwright d = new Dramwright();
        Check.same("none", d.commands(), 0);
        Check.pass(d, 199);
        Check.same("none", d.commands(), 0);
        d.read(0, 0);
        d.go(1);
        Check.same("one", d.commands(), 1);
        d.go(4);
        Check.same("two", d.commands(), 2);
    }

    static void judgeTakesRanks0And1AndBanks0To3() {
        takesFromZero("rank", 1, (d, rank) -> d.judge('a', rank, 0, 1));
        takesFromZero("bank", 3, (d, bank) -> d.judge('a', 0, bank, 1));
        for (char letter : "fdxt".toCharArray()) {
            takesFromZero("bank of " + letter, 3, (d, bank) -> d.judge(letter, 0, bank, 1));
        }
    }

    static void judgeTakesTheNineLetters() {
        for (int letter = 0; letter < 256; letter++) {
            char command = (char) letter;
            if ("arwpfgdxt".indexOf(command) < 0) {
                Check.illegal("letter " + letter, () -> new Dramwright().judge(command, 0, 0, 1));
            } else {
                new Dramwright().judge(command, 0, 0, 1);
            }
        }
        Twins.illegal("no such command", Twins::busy, d -> d.judge('A', 0, 0, 1));
    }

    static void judgeTakes1To999() {
        Dramwright d = new Dramwright();
        Check.same("1 is taken", d.judge('a', 0, 0, 1), '-');
        Check.same("999 is taken", d.judge('p', 0, 0, 999), '-');
        Twins.illegal("0", Twins::busy, e -> e.judge('a', 0, 0, 0));
        Twins.illegal("1000", Twins::busy, e -> e.judge('a', 0, 0, 1000));
        Twins.illegal("-1", Twins::busy, e -> e.judge('a', 0, 0, -1));
        for (int far : Check.FAR) {
            Check.illegal("far " + far, () -> d.judge('a', 0, 0, far));
        }
        Check.same("none was put there", d.judged(), 2);
    }

    static void judgeThrowsTheExceptionListedFirst() {
        Twins.outOfBounds("rank, command, number", Twins::busy, d -> d.judge('q', 2, 0, 0));
        Twins.outOfBounds("bank, command", Twins::busy, d -> d.judge('q', 0, 4, 1));
        Twins.outOfBounds("bank, number", Twins::busy, d -> d.judge('a', 0, -1, 1000));
    }

    static void judgePutsALawfulCommandAloneIntoItsTrace() {
        Dramwright d = new Dramwright();
        d.judge('a', 0, 0, 1);
        for (int i = 0; i < 5; i++) {
            Check.same("3 behind the last one of the trace, each time", d.judge('r', 0, 0, 3), 'A');
            Check.same("an open bank", d.judge('a', 0, 0, 500), 'o');
            Check.same("no rest", d.judge('x', 0, 0, 999), 'z');
        }
        Check.same("4 behind it", d.judge('r', 0, 0, 4), '-');
        Check.same("two are there", d.judged(), 2);
    }

    static void judgeHasATraceOfItsOwn() {
        Dramwright d = new Dramwright();
        d.read(0, 0);
        d.go(1);
        Check.same("the bank is open, but not in the trace", d.judge('a', 0, 0, 1), '-');
        d.go(50);
        Check.same("what is issued does not go there", d.judged(), 1);
        d.judge('d', 1, 0, 1);
        Check.isFalse("nor does what is judged rest", d.rests(1));
        Check.same("nor is it issued", d.commands(), 2);
        Check.isTrue("nor judged with the others", d.isLawful());
    }

    static void judgeTellsRestAheadOfOpenBanksAheadOfDistances() {
        for (char letter : "arwpfgdt".toCharArray()) {
            Dramwright d = new Dramwright();
            d.judge('d', 0, 0, 1);
            Check.same(letter + " at rest", d.judge(letter, 0, 0, 1), 'z');
            Check.same("the other rank's own", d.judge('x', 1, 0, 1), 'z');
        }
        for (char letter : "ag".toCharArray()) {
            Dramwright d = new Dramwright();
            d.judge('a', 0, 2, 1);
            Check.same(letter + " of an open bank", d.judge(letter, 0, 2, 1), 'o');
            Check.same(letter + " of another one", d.judge(letter, 0, 0, 2), '-');
        }
        for (char letter : "rwp".toCharArray()) {
            Dramwright d = new Dramwright();
            d.judge('a', 0, 2, 1);
            Check.same(letter + " of a shut bank", d.judge(letter, 0, 0, 1), 'o');
            Check.same(letter + " of the open one, too early", d.judge(letter, 0, 2, 1), letter == 'p' ? 'C' : 'A');
        }
        for (char letter : "fdt".toCharArray()) {
            for (int bank = 0; bank < 4; bank++) {
                Dramwright d = new Dramwright();
                d.judge('a', 1, bank, 1);
                for (int other = 0; other < 4; other++) {
                    Check.same(letter + " with an open bank", d.judge(letter, 1, other, 99), 'o');
                }
                Check.same(letter + " of the other rank", d.judge(letter, 0, bank, 1), '-');
            }
        }
    }

    static void judgeTellsTheFirstOfSeveralDistances() {
        Dramwright d = new Dramwright();
        for (char which : "BDEF".toCharArray()) {
            d.distance(which, 99);
        }
        d.distance('C', 1);
        d.judge('a', 0, 0, 1);
        Check.same("D", d.judge('a', 0, 2, 98), 'D');
        Check.same("D kept", d.judge('a', 0, 2, 99), '-');
        Check.same("p", d.judge('p', 0, 0, 1), '-');
        Check.same("B ahead of D", d.judge('a', 0, 0, 1), 'B');
        Check.same("E ahead of none", d.judge('a', 0, 3, 97), 'E');
        Check.same("all kept", d.judge('a', 0, 0, 99), '-');
    }

    static void judgeTakesTheDistancesThatHold() {
        Dramwright d = new Dramwright();
        d.judge('a', 0, 0, 1);
        d.distance('A', 50);
        Check.same("49 is too early", d.judge('r', 0, 0, 49), 'A');
        d.slow(true);
        Check.same("half of it holds now", d.judge('r', 0, 0, 24), 'A');
        Check.same("25 is enough", d.judge('r', 0, 0, 25), '-');
    }

    static void judgedOfAnEmptyTrace() {
        Dramwright d = new Dramwright();
        Check.same("none", d.judged(), 0);
        Check.same("none", d.judged(), 0);
        d.judge('a', 0, 0, 1);
        Check.same("one", d.judged(), 1);
        Check.same("none again", d.judged(), 0);
        Check.same("no distance from before", d.judge('a', 0, 0, 1), '-');
    }

    static void judgedForgetsEachThingOfTheTrace() {
        String[] traces = {"a00 r00 p00", "a00 w00", "f00", "t00", "g00", "d00", "d00 x00", "a00 a01 a02 a03"};
        for (String trace : traces) {
            for (char letter : "agfdt".toCharArray()) {
                Dramwright d = new Dramwright();
                int count = 0;
                for (String step : trace.split(" ")) {
                    Check.same(step, d.judge(step.charAt(0), step.charAt(1) - '0', step.charAt(2) - '0', 50), '-');
                    count++;
                }
                Check.same("count", d.judged(), count);
                Check.same(letter + " behind " + trace, d.judge(letter, 0, 0, 1), '-');
            }
        }
    }

    static void judgedForgetsDataOnTheBus() {
        Dramwright d = new Dramwright();
        d.distance('L', 99);
        d.distance('A', 1);
        d.judge('a', 0, 0, 1);
        d.judge('r', 0, 0, 1);
        d.judged();
        d.judge('a', 1, 0, 1);
        Check.same("w", d.judge('w', 1, 0, 1), '-');
    }

    static void isLawfulOfNoCommandsAndOfMany() {
        Dramwright d = new Dramwright();
        Check.isTrue("none", d.isLawful());
        d.policy('p', 1);
        d.policy('r', 4);
        d.policy('i', 50);
        d.policy('h', 2);
        d.rows('c');
        for (int i = 0; i < 40; i++) {
            d.policy('g', i / 2 % 2);
            d.go(150);
            Check.isTrue("lawful", d.isLawful());
        }
        Check.isTrue("many", d.commands() > 1000);
    }

    static void isLawfulByTheDistancesOfEachCommand() {
        Dramwright d = new Dramwright();
        d.rows('c');
        d.slow(true);
        Check.finishedRead(d, 0, 0);
        d.go(20);
        Check.same("half of them", Check.trace(d), "a00:0@0 r00:0@2 p00@5");
        Check.isTrue("lawful, too", d.isLawful());
        d.slow(false);
        Check.isTrue("even if others hold now", d.isLawful());
        Check.finishedRead(d, 0, 0);
        d.slow(d.openRow(0, 0) >= 0);
        Check.isTrue("and behind the next ones", d.isLawful());
    }
}
