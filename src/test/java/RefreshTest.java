/** Refresh that is owed, put off, drawn ahead or by banks; rest; training among other things. */
final class RefreshTest {
    private RefreshTest() {
    }

    static void refreshIsPutOff() {
        Dramwright d = new Dramwright();
        d.policy('i', 50);
        Check.pass(d, 400);
        Check.same("28 owed", d.owed(0), 28);
        Check.same("nothing yet", d.commands(), 0);
        d.go(2);
        Check.same("32", Check.trace(d), "f0@400 f1@401");
        Check.same("4 less", d.owed(0) + d.owed(1), 56);
        Check.pass(d, 60);
        Check.same("again", Check.trace(d, 2), "f0@450 f1@451");
    }

    static void refreshShutsBanksFirst() {
        Dramwright d = new Dramwright();
        d.policy('i', 50);
        Check.pass(d, 395);
        d.read(0, Check.at(0, 2, 0, 0));
        d.read(0, Check.at(0, 0, 0, 0));
        d.read(0, Check.at(0, 0, 1, 0));
        d.go(40);
        Check.same("nothing else of this rank is issued",
            Check.trace(d), "a02:0@395 a00:0@397 r02:0@399 f1@400 p02@404 p00@406 f0@410 a00:0@430 r00:0@434");
    }

    static void refreshByBanks() {
        Dramwright d = new Dramwright();
        d.policy('i', 50);
        d.policy('g', 1);
        Check.pass(d, 402);
        Check.same("one is enough", Check.trace(d), "g00@400 g10@401");
        Check.same("1 less", d.owed(0), 31);
        Check.pass(d, 60);
        Check.same("the turn goes on, rank 0 first", Check.trace(d, 2),
            "g01@450 g02@451 g03@452 g00@453 g11@454 g12@455 g13@456 g10@457");
    }

    static void refreshByBanksShutsTheBankWhoseTurnItIs() {
        Dramwright d = new Dramwright();
        d.policy('i', 50);
        d.policy('g', 1);
        d.read(0, Check.at(0, 0, 0, 0));
        d.read(0, Check.at(0, 1, 0, 0));
        Check.pass(d, 410);
        Check.same("the other bank stays open", Check.trace(d, 4), "p00@400 g10@401 g00@404");
        Check.same("open", d.openRow(0, 1), 0);
    }

    static void refreshDrawnAhead() {
        Dramwright d = new Dramwright();
        d.policy('a', 1);
        Check.pass(d, 199);
        Check.same("down to -32", d.owed(0), -32);
        Check.same("both", d.owed(1), -32);
        Check.same("8 each, O between", d.commands(), 16);
        Check.same("the first ones", Check.trace(d).startsWith("f0@0 f1@1 f0@20 f1@21"), true);
    }

    static void refreshIsNotDrawnAheadWhileARequestWaits() {
        Dramwright d = new Dramwright();
        d.policy('a', 1);
        d.read(0, 0);
        d.go(5);
        Check.same("the other rank alone", Check.trace(d), "a00:0@0 f1@1 r00:0@4");
        d.go(10);
        Check.same("then this one, behind its p", Check.trace(d, 3), "p00@9 f0@13");
    }

    static void refreshCountsOpeningsFromZero() {
        Dramwright d = new Dramwright();
        d.read(0, 0);
        d.read(0, Check.at(1, 2, 5, 0));
        Check.finishedRead(d, 0, Check.at(1, 0, 5, 0));
        Check.same("counted", d.opened(0, 0, 0) + d.opened(1, 2, 5) + d.opened(1, 0, 5), 3);
        d.policy('a', 1);
        d.go(5);
        d.policy('g', 1);
        d.go(20);
        Check.same("f of the rank, or g of the bank", d.opened(0, 0, 0) + d.opened(1, 0, 5), 0);
    }

    static void anFBeginsAllCountsOfItsRank() {
        Dramwright d = new Dramwright();
        for (int bank = 0; bank < 4; bank++) {
            d.read(0, Check.at(0, bank, 31, 0));
            d.read(0, Check.at(1, bank, 31, 0));
        }
        d.finish(300);
        d.policy('a', 1);
        int before = d.commands();
        for (int i = 0; i < 50 && d.owed(0) == 0; i++) {
            Check.same("counted till then", d.opened(0, 3, 31), 1);
            d.go(1);
        }
        Check.isTrue("f " + Check.trace(d, before), Check.trace(d, before).indexOf("f0") > 0);
        for (int bank = 0; bank < 4; bank++) {
            Check.same("bank " + bank, d.opened(0, bank, 31), 0);
            Check.same("rank 1 has its own", d.opened(1, bank, 31), 1);
        }
    }

    static void aGBeginsAllCountsOfItsBank() {
        Dramwright d = new Dramwright();
        for (int bank = 0; bank < 4; bank++) {
            d.read(0, Check.at(0, bank, 31, 0));
        }
        d.finish(300);
        d.policy('a', 1);
        d.policy('g', 1);
        Check.goWhile(d, () -> d.owed(0) > -2);
        Check.same("g of the banks 0 and 1", d.opened(0, 0, 31) + d.opened(0, 1, 31), 0);
        Check.same("the others go on", d.opened(0, 2, 31) + d.opened(0, 3, 31), 2);
    }

    static void aRankThatOwes4DoesNotRest() {
        Dramwright d = new Dramwright();
        d.policy('i', 50);
        d.policy('r', 60);
        d.go(40);
        d.go(60);
        Check.same("4 owed from 50 on", d.owed(0), 4);
        Check.same("no d", d.commands(), 0);
    }

    static void restAndWaking() {
        Dramwright d = new Dramwright();
        d.policy('r', 10);
        d.rows('c');
        d.go(20);
        Check.same("trace", Check.trace(d), "d0@10 d1@11");
        d.read(0, Check.at(1, 0, 0, 0));
        d.go(60);
        Check.same("rank 1 alone wakes, and rests 10 cycles behind its last command",
            Check.trace(d, 2), "x1@20 a10:0@23 r10:0@27 p10@32 d1@42");
        d.train(0);
        d.go(30);
        Check.same("training wakes, too", Check.trace(d, 7), "x0@80 t0@83 d0@103");
    }

    static void owingWakes() {
        Dramwright d = new Dramwright();
        d.policy('r', 10);
        Check.pass(d, 205);
        Check.same("4 owed", Check.trace(d), "d0@10 d1@11 x0@200 x1@201");
    }

    static void openBanksKeepARankAwake() {
        Dramwright d = new Dramwright();
        d.policy('r', 3);
        d.read(0, 0);
        d.go(100);
        Check.isFalse("open", d.rests(0));
        Check.isTrue("shut", d.rests(1));
    }

    static void guardedRowsGoAheadOfRequests() {
        Dramwright d = new Dramwright();
        d.policy('h', 2);
        Check.finishedRead(d, 0, Check.at(0, 0, 5, 0));
        Check.finishedRead(d, 0, Check.at(0, 0, 20, 0));
        int before = d.commands();
        d.read(0, Check.at(0, 0, 5, 0));
        Check.finishedRead(d, 0, Check.at(0, 0, 25, 0));
        String trace = Check.trace(d, before);
        Check.isTrue("4, then 6, then 25: " + trace,
            trace.indexOf("a00:4") < trace.indexOf("a00:6") && trace.indexOf("a00:6") < trace.indexOf("a00:25")
                && trace.indexOf("a00:4") > 0);
    }

    /** Opens rows of the bank 2 of the rank 0 in turn, with a limit of 2. */
    private static Dramwright openInTurn(int... rows) {
        Dramwright d = new Dramwright();
        d.policy('h', 2);
        for (int row : rows) {
            Check.finishedRead(d, 0, Check.at(0, 2, row, 0));
        }
        return d;
    }

    static void guardingGoesThroughTheRowZero() {
        Dramwright d = openInTurn(1, 20);
        d.read(0, Check.at(0, 2, 1, 0));
        int before = d.commands();
        d.go(60);
        Check.same("0, then 2", Check.trace(d, before),
            "p02@26 a02:1@30 r02:0@34 p02@39 a02:0@43 p02@52 a02:2@56");
        Check.same("none is left", d.guarded(), 0);
    }

    static void noRowIsGuardedTwiceAtOnce() {
        Dramwright d = openInTurn(9, 11, 10);
        Check.finishedRead(d, 0, Check.at(0, 2, 25, 0));
        d.read(0, Check.at(0, 2, 10, 0));
        int before = d.commands();
        for (int cycle = 0; cycle < 100 && d.openRow(0, 2) != 11; cycle++) {
            d.go(1);
        }
        Check.same("9 tells 8 and 10, 11 tells 12 alone", d.guarded(), 3);
        d.go(140);
        String trace = Check.trace(d, before);
        int last = -1;
        for (String opening : new String[] {"a02:10@", "a02:9@", "a02:11@", "a02:8@", "a02:10@", "a02:12@"}) {
            int at = trace.indexOf(opening, last + 1);
            Check.isTrue(opening + " in " + trace, at > last);
            last = at;
        }
    }

    static void rowsOfAClosedRankAreNotGuarded() {
        Dramwright d = openInTurn(5, 20);
        d.policy('i', 50);
        d.policy('g', 1);
        Check.pass(d, (int) (385 - d.cycle()));
        int before = d.commands();
        d.read(0, Check.at(0, 2, 5, 0));
        d.go(11);
        d.read(0, Check.at(0, 0, 0, 0));
        d.go(20);
        Check.same("nothing else of this rank is issued until it owes less", Check.trace(d, before),
            "p02@385 a02:5@389 r02:0@393 a00:0@396 p02@398 g10@400 p00@405 g00@409 a02:4@410");
    }

    static void rowsToBeGuardedKeepARankAwake() {
        Dramwright d = new Dramwright();
        d.policy('h', 2);
        d.policy('r', 1);
        d.distance('F', 99);
        d.rows('c');
        int[] openings = {Check.at(0, 2, 5, 0), Check.at(0, 0, 20, 0), Check.at(0, 2, 5, 0)};
        for (int address : openings) {
            Check.finishedRead(d, 0, address);
            d.go(9);
        }
        d.go(60);
        Check.same("6 waits for F from the a at 0, and meanwhile the rank does not rest", Check.trace(d),
            "a02:5@0 d1@1 r02:0@4 p02@9 d0@13 x0@20 a00:20@23 r00:0@27 p00@32 d0@36"
            + " x0@43 a02:5@46 r02:0@50 p02@55 a02:4@59 p02@68 a02:6@99 p02@108 d0@112");
    }

    static void requestsThatAreNotLookedAtHinderRefreshAndRest() {
        Dramwright d = new Dramwright();
        d.policy('a', 1);
        d.write(0, Check.at(0, 0, 0, 0), 1, 15, false);
        d.read(0, Check.at(1, 0, 0, 0));
        d.go(4);
        Check.same("the write waits for rank 0", Check.trace(d), "a10:0@0");
        Dramwright r = new Dramwright();
        r.policy('r', 2);
        r.write(0, Check.at(0, 0, 0, 0), 1, 15, false);
        r.read(0, Check.at(1, 0, 0, 0));
        r.go(4);
        Check.same("no rest", Check.trace(r), "a10:0@0");
    }

    static void guardingIsDoneByAnyOpening() {
        Dramwright d = new Dramwright();
        d.policy('h', 2);
        Check.finishedRead(d, 0, Check.at(0, 0, 5, 0));
        Check.finishedRead(d, 0, Check.at(0, 0, 20, 0));
        d.policy('i', 50);
        d.read(0, Check.at(0, 0, 5, 0));
        d.go(5);
        Check.same("both", d.guarded(), 2);
        d.go(150);
        Check.same("none", d.guarded(), 0);
    }

    static void trainingComesBehindRequests() {
        Dramwright d = new Dramwright();
        d.train(0);
        d.read(0, 0);
        d.go(40);
        Check.same("trace", Check.trace(d), "a00:0@0 r00:0@4 p00@9 t0@13");
    }

    static void refreshOfARankIsNotHinderedByTheOther() {
        Dramwright d = new Dramwright();
        d.policy('i', 50);
        Check.pass(d, 400);
        d.read(0, 0);
        d.read(0, Check.at(1, 0, 0, 0));
        d.go(30);
        Check.same("trace", Check.trace(d), "f0@400 f1@401 a00:0@420 a10:0@421 r00:0@424 r10:0@427");
    }

    static void restIsCountedFromARefreshAndATraining() {
        for (char letter : "fgt".toCharArray()) {
            Dramwright d = new Dramwright();
            d.policy('r', 40);
            d.policy('g', letter == 'g' ? 1 : 0);
            d.go(10);
            if (letter == 't') {
                d.train(0);
            } else {
                d.policy('a', 1);
            }
            d.go(1);
            d.policy('a', 0);
            Check.passTill(d, 60);
            Check.same("40 cycles behind it, and 40 behind 0", Check.trace(d),
                (letter == 'g' ? "g00" : letter + "0") + "@10 d1@40 d0@50");
        }
    }

    static void aRowToBeGuardedShutsOneThatIsWanted() {
        Dramwright d = openInTurn(5, 20);
        d.read(0, Check.at(0, 2, 5, 0));
        Check.goWhile(d, () -> d.openRow(0, 2) != 5);
        int opened = (int) d.cycle() - 1;
        Check.passTill(d, opened + 9);
        d.read(0, Check.at(0, 2, 5, 1));
        int before = d.commands();
        d.go(1);
        Check.same("p for the row 4, though a read is looked at for the row 5", Check.trace(d, before), "p02@" + (opened + 9));
    }

    static void whatIsOwedHasNoBound() {
        Dramwright d = new Dramwright();
        d.policy('i', 50);
        d.distance('O', 99);
        Check.pass(d, 4001);
        int[] refreshed = new int[2];
        for (int i = 0; i < d.commands(); i++) {
            refreshed[d.command(i, 'k')]++;
        }
        for (int rank = 0; rank < 2; rank++) {
            Check.same("80 times 4, less 4 for each f", d.owed(rank), 320 - 4 * refreshed[rank]);
            Check.isTrue("far above 32", d.owed(rank) > 100);
        }
    }
}
