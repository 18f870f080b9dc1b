/** The boundary cases of refresh, of rows that are opened too often, of rest and of the steps of a choice. */
final class EdgesOfRefreshTest {
    private EdgesOfRefreshTest() {
    }

    /** Brings a rank to owe as much as told, above 0, with an interval of 50 and by banks. */
    private static Dramwright owing(int owed) {
        Dramwright d = new Dramwright();
        d.policy('i', 50);
        d.policy('g', 1);
        int multiples = (owed + 3) / 4;
        Check.passTill(d, 50 * multiples + 1);
        d.policy('i', 2000);
        d.policy('a', 1);
        Check.goWhile(d, () -> d.owed(0) > owed);
        d.policy('a', 0);
        Check.same("owed", d.owed(0), owed);
        return d;
    }

    static void eachMultipleOfTheIntervalOwes4MoreButNotTheCycle0() {
        for (int interval : new int[] {50, 51, 200, 1999, 2000}) {
            Dramwright d = new Dramwright();
            d.policy('i', interval);
            d.go(1);
            Check.same("not the cycle 0", d.owed(0) + d.owed(1), 0);
            for (int times = 1; times <= 3; times++) {
                Check.passTill(d, interval * times);
                Check.same("not the cycle before", d.owed(0) * 100 + d.owed(1), 404 * (times - 1));
                d.go(1);
                Check.same("the multiple", d.owed(0) * 100 + d.owed(1), 404 * times);
            }
        }
    }

    static void theIntervalIs200AtFirst() {
        Dramwright d = new Dramwright();
        Check.passTill(d, 200);
        Check.same("the cycles 0 to 199", d.owed(0), 0);
        d.go(1);
        Check.same("the cycle 200", d.owed(0), 4);
    }

    static void anFTakes4OffAndAG1() {
        Dramwright d = new Dramwright();
        d.policy('a', 1);
        d.go(1);
        Check.same("f", d.owed(0), -4);
        d.policy('g', 1);
        d.go(30);
        Check.same("g each cycle of the four, behind O", d.owed(1) > -32 && d.owed(1) < -4, true);
        Dramwright g = new Dramwright();
        g.policy('a', 1);
        g.policy('g', 1);
        g.go(1);
        Check.same("g", g.owed(0), -1);
    }

    /** A new object that refreshes a bank in each cycle as far as it may be drawn ahead. */
    private static Dramwright drawingAheadByBanks() {
        Dramwright d = new Dramwright();
        d.policy('a', 1);
        d.policy('g', 1);
        d.distance('P', 1);
        d.policy('i', 2000);
        return d;
    }

    static void theTurnGoesFromTheBank0ToTheNextOneWithEachG() {
        Dramwright d = drawingAheadByBanks();
        d.go(64);
        Check.same("32 of each rank", d.owed(0) + d.owed(1), -64);
        for (int i = 0; i < 32; i++) {
            Check.same("rank 0 first", d.command(i, 'k') * 10 + d.command(i, 'b'), i % 4);
            Check.same("then rank 1", d.command(i + 32, 'k') * 10 + d.command(i + 32, 'b'), 10 + i % 4);
        }
    }

    static void anFDoesNotTurnTheTurn() {
        Dramwright d = new Dramwright();
        d.policy('a', 1);
        d.policy('g', 1);
        d.go(1);
        d.policy('g', 0);
        d.go(30);
        d.policy('g', 1);
        int before = d.commands();
        d.go(40);
        String trace = Check.trace(d, before);
        Check.same("the bank 1 behind the bank 0: " + trace, trace.substring(trace.indexOf("g0"), trace.indexOf("g0") + 3), "g01");
    }

    static void refreshIsDueFrom32Owed() {
        Dramwright d = new Dramwright();
        d.policy('i', 50);
        d.policy('g', 1);
        Check.passTill(d, 400);
        Check.same("28 are not", d.commands() * 100 + d.owed(0), 28);
        d.go(1);
        Check.same("32 are, 31 are left", d.commands() * 100 + d.owed(0), 131);
        Check.passTill(d, 450);
        Check.same("31 are not", d.commands() * 100 + d.owed(0), 231);
        Check.passTill(d, 500);
        Check.same("35, 34, 33 and 32 are, of each rank", d.commands() * 100 + d.owed(0), 1031);
    }

    static void aRankThatOwes31ServesRequests() {
        Dramwright d = new Dramwright();
        d.policy('i', 50);
        d.policy('g', 1);
        Check.passTill(d, 402);
        Check.same("both owe 31", d.owed(0) * 100 + d.owed(1), 3131);
        d.read(0, Check.at(0, 3, 0, 0));
        d.go(1);
        Check.same("a", Check.trace(d), "g00@400 g10@401 a03:0@402");
    }

    static void nothingElseOfARankThatOwes32IsIssued() {
        Dramwright d = new Dramwright();
        d.policy('i', 50);
        d.distance('C', 40);
        d.rows('c');
        Check.passTill(d, 380);
        d.read(0, Check.at(0, 1, 3, 0));
        d.read(0, Check.at(0, 2, 3, 0));
        Check.passTill(d, 399);
        int before = d.commands();
        d.read(0, Check.at(0, 2, 3, 1));
        d.go(1);
        Check.same("28 are owed: r", Check.trace(d, before), "r02:1@399");
        d.train(0);
        d.read(0, Check.at(0, 2, 3, 2));
        d.read(0, Check.at(0, 0, 3, 0));
        d.read(0, Check.at(0, 1, 5, 0));
        d.go(32);
        Check.same("32 are owed: no r, a or t till the f", Check.trace(d, before + 1), "f1@400 p01@420 p02@422 f0@426");
        d.go(15);
        Check.same("28 are owed, and O is kept", Check.trace(d, before + 5), "a02:3@446");
    }

    static void refreshIsDrawnAheadToMinus32() {
        Dramwright d = drawingAheadByBanks();
        d.go(31);
        Check.same("-31 is more than -32", d.owed(0), -31);
        d.go(1);
        Check.same("so one more", d.owed(0), -32);
        d.go(100);
        Check.same("not another one", d.owed(0), -32);
    }

    static void anFIsDrawnAheadFromMinus31() {
        Dramwright d = drawingAheadByBanks();
        d.go(31);
        d.policy('g', 0);
        d.go(50);
        Check.same("4 less", d.owed(0), -35);
        d.go(100);
        Check.same("not another one", d.owed(0), -35);
    }

    static void refreshIsNotDrawnAheadWhileARequestWaitsForTheRank() {
        Dramwright d = new Dramwright();
        d.policy('a', 1);
        d.distance('A', 50);
        d.read(0, Check.at(0, 1, 0, 0));
        d.go(50);
        Check.same("none of the rank 0", d.owed(0), 0);
        Check.isTrue("of the rank 1", d.owed(1) < 0);
        d.go(1);
        Check.same("r at 50", d.queued(false), 0);
        d.go(30);
        Check.isTrue("under way is not waiting", d.owed(0) < 0);
    }

    static void refreshIsNotDrawnAheadUnlessTold() {
        Dramwright d = new Dramwright();
        Check.passTill(d, 250);
        Check.same("4 are owed, none was drawn ahead", d.owed(0) * 10 + d.commands(), 40);
        d.policy('a', 1);
        d.go(1);
        Check.same("told", d.owed(0), 0);
    }

    /** Opens rows of the bank 0 of the rank 0, one behind the other, each shut again. */
    private static void open(Dramwright d, int... rows) {
        d.rows('c');
        for (int row : rows) {
            Check.finishedRead(d, 0, Check.at(0, 0, row, 0));
            d.go(20);
        }
    }

    static void aRowIsCountedTillItWasOpenedAsOftenAsTheLimitTells() {
        for (int limit : new int[] {2, 3, 30}) {
            Dramwright d = new Dramwright();
            d.policy('h', limit);
            d.policy('i', 2000);
            for (int i = 1; i < limit; i++) {
                open(d, 9);
                Check.same("counted", d.opened(0, 0, 9), i);
                Check.same("none is to be guarded", d.guarded(), 0);
            }
            d.read(0, Check.at(0, 0, 9, 0));
            d.go(1);
            Check.same("from 0 again", d.opened(0, 0, 9), 0);
            Check.same("both neighbours", d.guarded(), 2);
        }
    }

    static void theLimitIs30AtFirst() {
        Dramwright d = new Dramwright();
        for (int i = 1; i < 30; i++) {
            open(d, 9);
            Check.same("counted", d.opened(0, 0, 9), i);
        }
        d.read(0, Check.at(0, 0, 9, 0));
        d.go(1);
        Check.same("the 30th", d.guarded() * 10 + d.opened(0, 0, 9), 20);
    }

    static void theLimitOf200IsAsFarAsItGoes() {
        Dramwright d = new Dramwright();
        d.policy('h', 200);
        d.policy('i', 2000);
        for (int i = 1; i < 200; i++) {
            open(d, 9);
        }
        Check.same("199", d.opened(0, 0, 9) * 10 + d.guarded(), 1990);
        d.read(0, Check.at(0, 0, 9, 0));
        d.go(1);
        Check.same("200", d.opened(0, 0, 9) * 10 + d.guarded(), 2);
    }

    static void aCountAboveALowerLimitIsEnough() {
        Dramwright d = new Dramwright();
        open(d, 9, 9, 9, 9);
        d.policy('h', 2);
        Check.same("nothing at once", d.guarded() * 10 + d.opened(0, 0, 9), 4);
        d.read(0, Check.at(0, 0, 9, 0));
        d.go(1);
        Check.same("at the next a", d.guarded() * 10 + d.opened(0, 0, 9), 20);
    }

    static void neighboursAreRowsFrom0To31() {
        int[][] cases = {{0, 1, 1}, {1, 2, 0}, {30, 2, 29}, {31, 1, 30}};
        for (int[] one : cases) {
            Dramwright d = new Dramwright();
            d.policy('h', 2);
            open(d, one[0]);
            d.read(0, Check.at(0, 0, one[0], 0));
            int before = d.commands();
            d.go(1);
            Check.same("neighbours of " + one[0], d.guarded(), one[1]);
            d.go(100);
            Check.same("none is left", d.guarded(), 0);
            Check.same("the first one of them", d.command(before + 3, 'r'), one[2]);
            Check.same("a spare row is none", d.opened(0, 0, 32), 0);
        }
    }

    /** A new object in which the row 8 of the bank 0 was replaced as many times as told. */
    private static Dramwright replaced(int times) {
        Dramwright d = new Dramwright();
        d.policy('s', 1);
        d.rows('c');
        int row = 8;
        for (int i = 0; i < times; i++) {
            d.stick(0, 0, row, 0, 0, true);
            open(d, 8, 8, 8);
            row = d.place(Check.at(0, 0, 8, 0), 'r');
        }
        Check.same("replaced", row, 31 + times);
        d.policy('h', 2);
        return d;
    }

    static void theNeighbourOfTheFirstSpareRowIs31() {
        Dramwright d = replaced(1);
        open(d, 8);
        Check.same("once", d.opened(0, 0, 32) * 10 + d.guarded(), 10);
        d.read(0, Check.at(0, 0, 8, 0));
        d.go(1);
        Check.same("twice: 31 alone, and not 33", d.opened(0, 0, 32) * 10 + d.guarded(), 1);
        d.go(60);
        Check.same("it is 31", d.opened(0, 0, 31) * 10 + d.opened(0, 0, 33), 10);
    }

    static void theSecondSpareRowHasNoNeighbour() {
        Dramwright d = replaced(2);
        open(d, 8);
        Check.same("once", d.opened(0, 0, 33) * 10 + d.guarded(), 10);
        d.read(0, Check.at(0, 0, 8, 0));
        d.go(1);
        Check.same("twice: none", d.opened(0, 0, 33) * 10 + d.guarded(), 0);
    }

    static void aNeighbourThatIsToBeGuardedIsNotToldAgain() {
        Dramwright d = new Dramwright();
        d.policy('h', 2);
        open(d, 9, 11, 10);
        Check.same("each once", d.guarded(), 0);
        d.read(0, Check.at(0, 0, 10, 0));
        int[][] due = {{10, 2}, {9, 3}, {11, 3}, {8, 2}, {10, 1}, {12, 0}};
        for (int[] one : due) {
            Check.goWhile(d, () -> d.openRow(0, 0) != one[0]);
            Check.same("10 tells 9 and 11; 9 tells 8 and 10; 11 tells 12 alone", d.guarded(), one[1]);
        }
    }

    static void aNeighbourThatIsTheFirstToBeGuardedIsNotToldAgain() {
        Dramwright d = new Dramwright();
        d.policy('h', 2);
        open(d, 0, 1, 2);
        d.read(0, Check.at(0, 0, 1, 0));
        int[][] due = {{1, 2}, {0, 2}, {2, 2}, {1, 1}, {3, 0}};
        for (int[] one : due) {
            Check.goWhile(d, () -> d.openRow(0, 0) != one[0]);
            Check.same("1 tells 0 and 2; 0 tells 1; 2 tells 3 alone", d.guarded(), one[1]);
        }
    }

    static void countsBeginAt0WithAnFOfTheRankOrAGOfTheBank() {
        Dramwright d = replaced(1);
        d.policy('h', 200);
        open(d, 0, 31, 8);
        Check.same("counted", d.opened(0, 0, 0) + d.opened(0, 0, 31) + d.opened(0, 0, 32), 3);
        d.policy('g', 1);
        d.policy('a', 1);
        Check.goWhile(d, () -> d.command(d.commands() - 1, 't') != 'g');
        Check.same("g of the bank 0", d.opened(0, 0, 0) + d.opened(0, 0, 31) + d.opened(0, 0, 32) + d.opened(0, 0, 8), 0);
    }

    static void rowsToBeGuardedStayThoughCountsBeginAt0() {
        Dramwright d = new Dramwright();
        d.policy('h', 2);
        d.policy('i', 50);
        Check.passTill(d, 340);
        open(d, 9);
        Check.passTill(d, 398);
        int before = d.commands();
        d.read(0, Check.at(0, 0, 9, 0));
        d.go(1);
        Check.same("8 and 10", d.guarded(), 2);
        d.go(40);
        Check.same("f ahead of 8", Check.trace(d, before), "a00:9@398 f1@400 p00@407 f0@411 a00:8@431");
        Check.same("10 is left", d.guarded(), 1);
    }

    static void theFirstToldRowIsGuardedFirst() {
        Dramwright d = new Dramwright();
        d.policy('h', 2);
        d.rows('c');
        int[] rows = {9, 20};
        for (int row : rows) {
            Check.finishedRead(d, 0, Check.at(0, 2, row, 0));
            d.go(20);
        }
        d.read(0, Check.at(0, 2, 20, 0));
        d.read(0, Check.at(0, 2, 9, 0));
        int before = d.commands();
        d.go(150);
        String trace = Check.trace(d, before).replaceAll("@\\d+", "").replaceAll("p02 ?|r02:0 ?", "").trim();
        Check.same("19 and 21 behind 20, 8 and 10 behind 9", trace, "a02:20 a02:19 a02:21 a02:9 a02:8 a02:10");
    }

    static void anyOtherOpeningOfARowGuardsIt() {
        Dramwright d = new Dramwright();
        d.policy('h', 2);
        d.policy('b', 10);
        d.rows('c');
        Check.finishedRead(d, 0, Check.at(0, 0, 9, 0));
        d.go(20);
        d.read(0, Check.at(0, 0, 9, 0));
        d.go(1);
        Check.same("8 and 10", d.guarded(), 2);
        Check.goWhile(d, () -> d.guarded() == 2);
        Check.same("8 is open", d.openRow(0, 0), 8);
        Check.same("10 is left", d.guarded(), 1);
    }

    static void aRowThatIsNotTheFirstToldIsGuardedByItsOpening() {
        Dramwright d = new Dramwright();
        d.policy('h', 2);
        d.distance('I', 60);
        open(d, 9);
        Check.finishedRead(d, 0, Check.at(0, 1, 9, 0));
        d.go(20);
        d.write(0, Check.at(0, 0, 9, 0), 1, 15, false);
        d.go(5);
        Check.same("8 and 10", d.guarded(), 2);
        d.read(0, Check.at(0, 1, 9, 0));
        d.go(10);
        Check.same("those of the other bank, too", d.guarded(), 4);
        Check.goWhile(d, () -> d.guarded() == 4);
        Check.same("w lets the first bank wait", d.openRow(0, 0) * 100 + d.openRow(0, 1), 908);
        Check.same("the third one is done", d.guarded(), 3);
    }

    static void aRankRestsBehindAsManyCyclesWithoutACommand() {
        for (int rest : new int[] {1, 2, 30, 500}) {
            Dramwright d = new Dramwright();
            d.policy('r', rest);
            d.policy('i', 2000);
            Check.passTill(d, rest);
            Check.same("none in the cycles till " + (rest - 1), d.commands(), 0);
            d.go(1);
            Check.same("from the cycle 0 on at first", Check.trace(d), "d0@" + rest);
        }
    }

    static void aRankDoesNotRestAt0() {
        Dramwright d = new Dramwright();
        d.policy('i', 2000);
        Check.passTill(d, 1500);
        Check.same("no d", d.commands(), 0);
        Check.isFalse("no rest", d.rests(0) || d.rests(1));
    }

    static void restIsCountedFromTheLastCommandOfTheRank() {
        for (int rest : new int[] {4, 9, 10, 50}) {
            Dramwright d = new Dramwright();
            d.policy('r', rest);
            d.rows('c');
            d.read(0, 0);
            d.go(10);
            Check.same("p at 9", d.command(d.commands() - 1, 'c') == 9 || d.command(d.commands() - 2, 'c') == 9, true);
            Check.passTill(d, 9 + rest);
            Check.isFalse("not yet", d.rests(0));
            d.go(1);
            Check.isTrue("as many cycles behind the p", d.rests(0));
        }
    }

    static void aRankDoesNotRestWhileARequestWaitsARowIsToBeGuardedOrItIsToBeTrained() {
        Dramwright d = new Dramwright();
        d.policy('r', 1);
        d.distance('A', 50);
        d.read(0, 0);
        d.go(50);
        Check.isFalse("a request waits", d.rests(0));
        Check.isTrue("none of the rank 1", d.rests(1));
        Dramwright t = new Dramwright();
        t.distance('O', 99);
        t.train(0);
        t.go(1);
        t.train(0);
        t.policy('r', 1);
        t.go(90);
        Check.isFalse("to be trained", t.rests(0));
        t.go(109);
        Check.same("trained again, as O lets it", t.command(2, 't') * 1000 + t.command(2, 'c'), 't' * 1000 + 99);
        t.go(1);
        Check.isTrue("then it rests", t.rests(0));
    }

    static void aRankThatOwes4DoesNotRestAndOneThatOwes3Does() {
        for (int owed = 3; owed <= 4; owed++) {
            Dramwright d = owing(owed);
            d.policy('r', 1);
            d.go(20);
            Check.same("owes " + owed, d.rests(0), owed == 3);
            int before = d.commands();
            d.go(100);
            Check.same("nor does 3 wake it, nor 4 come to rest", d.commands(), before);
        }
    }

    static void aRankThatRestsGoesOnRestingThoughRestIsTurnedOff() {
        Dramwright d = new Dramwright();
        d.policy('r', 1);
        d.go(3);
        d.policy('r', 0);
        Check.isTrue("as 0 is told", d.rests(0) && d.rests(1));
        d.go(50);
        Check.isTrue("50 cycles behind", d.rests(0) && d.rests(1));
        Check.same("no x", Check.trace(d), "d0@1 d1@2");
    }

    static void aRankThatRestsWakesWhenItOwes4() {
        Dramwright d = new Dramwright();
        d.policy('a', 1);
        d.policy('g', 1);
        d.go(1);
        d.policy('a', 0);
        d.policy('r', 11);
        Check.passTill(d, 200);
        Check.same("ahead by 1, the other one is not", d.owed(0) * 10 + d.owed(1), -10);
        Check.isTrue("both rest", d.rests(0) && d.rests(1));
        d.go(30);
        Check.same("3 let it rest, 4 do not", d.owed(0) * 10 + d.owed(1), 34);
        Check.isTrue("3", d.rests(0));
        Check.isFalse("4", d.rests(1));
        Check.passTill(d, 400);
        d.go(1);
        Check.isFalse("7", d.rests(0));
    }

    static void aRankWakesForARequestThatIsLookedAtAlone() {
        Dramwright d = new Dramwright();
        d.policy('r', 1);
        d.go(10);
        d.write(0, Check.at(0, 0, 0, 0), 1, 15, false);
        d.read(0, Check.at(1, 0, 0, 0));
        d.go(4);
        Check.isTrue("the write is not looked at", d.rests(0));
        Check.isFalse("the read is", d.rests(1));
    }

    static void ranksWakeInOrderAndEachInItsTurn() {
        Dramwright d = new Dramwright();
        d.policy('r', 1);
        d.go(10);
        int before = d.commands();
        d.train(1);
        d.train(0);
        d.go(2);
        Check.same("rank 0 first", Check.trace(d, before), "x0@10 x1@11");
    }

    /** Brings the rank 1 to owe 32 less than the rank 0, for which requests wait as refresh is drawn ahead. */
    private static Dramwright owingInRank0() {
        Dramwright d = new Dramwright();
        d.policy('i', 50);
        d.policy('h', 2);
        d.distance('O', 1);
        d.policy('a', 1);
        d.read(0, Check.at(0, 0, 0, 0));
        d.read(0, Check.at(0, 0, 1, 0));
        d.go(17);
        d.policy('a', 0);
        d.go(10);
        Check.same("owed", d.owed(0) * 100 + d.owed(1), -32);
        return d;
    }

    static void wakingGoesAheadOfRefreshThatIsDue() {
        Dramwright d = owingInRank0();
        d.policy('r', 1);
        Check.passTill(d, 400);
        Check.isTrue("the rank 1 owes 28 less and rests", d.rests(1) && d.owed(1) == d.owed(0) - 32);
        int before = d.commands();
        d.read(0, Check.at(1, 0, 0, 0));
        d.go(2);
        Check.same("owes 32 in the cycle 400", Check.trace(d, before), "x1@400 p00@401");
    }

    static void refreshThatIsDueGoesAheadOfRowsToBeGuarded() {
        Dramwright d = owingInRank0();
        Check.finishedRead(d, 0, Check.at(1, 0, 5, 0));
        Check.finishedRead(d, 0, Check.at(1, 0, 9, 0));
        Check.passTill(d, 387);
        d.read(0, Check.at(1, 0, 5, 0));
        Check.passTill(d, 400);
        Check.same("4 and 6 of the rank 1", d.guarded(), 2);
        int before = d.commands();
        d.go(2);
        Check.same("both can be issued from 400 on", Check.trace(d, before), "p00@400 p10@401");
    }

    static void trainingGoesAheadOfRefreshThatIsDrawnAhead() {
        for (int rank = 0; rank <= 1; rank++) {
            Dramwright d = new Dramwright();
            d.policy('a', 1);
            d.train(rank);
            d.go(2);
            Check.same("t, then f of the other rank", Check.trace(d), "t" + rank + "@0 f" + (1 - rank) + "@1");
        }
    }

    static void refreshThatIsDrawnAheadGoesAheadOfShuttingByPolicy() {
        Dramwright d = new Dramwright();
        Check.finishedRead(d, 0, Check.at(1, 0, 0, 0));
        Check.passTill(d, 30);
        d.rows('c');
        d.policy('a', 1);
        d.go(2);
        Check.same("f of the rank 0 ahead of p of the rank 1", Check.trace(d, 2), "f0@30 p10@31");
    }

    static void aRankToBeTrainedIsShutFromItsLowestBankOn() {
        Dramwright d = new Dramwright();
        for (int bank = 3; bank >= 0; bank--) {
            d.read(0, Check.at(0, bank, 0, 0));
        }
        d.finish(300);
        d.go(20);
        int before = d.commands();
        d.train(0);
        d.go(30);
        String trace = Check.trace(d, before).replaceAll("@\\d+", "");
        Check.same("p of each, then t", trace, "p00 p01 p02 p03 t0");
    }

    /** Opens the banks 3, 1 and 0 of the rank 0, the last one so late that C still holds it for long. */
    private static Dramwright withBankZeroOpenedLast(int till) {
        Dramwright d = new Dramwright();
        d.distance('C', 40);
        d.policy('i', 50);
        Check.passTill(d, till - 50);
        d.read(0, Check.at(0, 3, 0, 0));
        d.read(0, Check.at(0, 1, 0, 0));
        Check.passTill(d, till - 10);
        d.read(0, Check.at(0, 0, 0, 0));
        Check.passTill(d, till);
        return d;
    }

    static void theLowestOpenBankIsTheOneThatCanBeShut() {
        Dramwright t = withBankZeroOpenedLast(100);
        t.train(0);
        int before = t.commands();
        t.go(40);
        Check.same("for training", Check.trace(t, before), "p01@100 p03@101 p00@130 t0@134");
        Dramwright f = withBankZeroOpenedLast(400);
        before = f.commands();
        f.go(40);
        Check.same("for refresh", Check.trace(f, before), "p01@400 p03@401 f1@402 p00@430 f0@434");
    }

    static void policyLShutsAtTheNumber2AndLeavesOpenAt1() {
        Dramwright d = new Dramwright();
        d.rows('l');
        int[] due = {3, 2, 1};
        for (int i = 0; i < 3; i++) {
            Check.same("shut till now", d.openRow(0, 0), -1);
            Check.finishedRead(d, 0, 0);
            d.go(20);
            Check.same("learned", d.learned(0, 0), due[i]);
        }
        Check.same("1 leaves it open", d.openRow(0, 0), 0);
        Check.finishedRead(d, 0, 128);
        d.go(20);
        Check.same("another row: 2", d.learned(0, 0), 2);
        Check.same("told to be shut", d.openRow(0, 0), -1);
    }

    static void policyCShutsARowForWhichNoRequestWaits() {
        Dramwright d = new Dramwright();
        d.rows('c');
        d.distance('H', 30);
        d.read(0, 0);
        d.read(0, 1);
        d.go(34);
        Check.same("one waits for it", d.openRow(0, 0), 0);
        d.go(1);
        Check.same("r at 34", d.queued(false), 0);
        d.go(3);
        Check.same("K till 36, then p", d.openRow(0, 0), -1);
        Check.same("p at 37", d.command(3, 'c'), 37);
    }
}
