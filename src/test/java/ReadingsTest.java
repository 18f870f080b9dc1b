/** Where the document's words leave a choice: the readings that NOTES.md tells, each with a test of its own. */
final class ReadingsTest {
    private ReadingsTest() {
    }

    /** What is counted of the readings of the first row. */
    private static String counted(Dramwright d) {
        return "mended " + d.mended() + ", lost " + d.lost() + ", faults " + d.faults(0, 0, 0) + ", spares " + d.spares(0, 0);
    }

    static void aPartialWriteIsNoReadingThatCounts() {
        Dramwright d = new Dramwright();
        d.policy('s', 1);
        for (int i = 0; i < 5; i++) {
            d.flip(0, 0, 0, 0, 4);
            d.flip(0, 0, 0, 1, 4);
            d.flip(0, 0, 0, 1, 5);
            d.write(0, 0, 0x100 * i, 2, false);
            d.write(0, 1, 0x100 * i, 2, false);
            d.finish(300);
        }
        Check.same("as it is read, mended", Check.wordAt(d, 0), 0x400);
        Check.same("lost, so it is poisoned", Check.flagAt(d, 1), 'p');
        Check.same("written, not read", counted(d), "mended 0, lost 0, faults 0, spares 2");
    }

    static void aChangeOfTheCodeMakesCodesAlone() {
        Dramwright d = new Dramwright();
        d.policy('s', 1);
        d.write(0, 0, 0x50, 15, true);
        d.finish(100);
        for (int column = 0; column < 2; column++) {
            d.flip(0, 0, 0, column, 8);
            d.flip(0, 0, 0, column, 9);
        }
        d.code('c');
        Check.same("it was lost, and is no longer", Check.flagAt(d, 1), 'r');
        Check.same("as it was read", Check.wordAt(d, 1), 0x300);
        Check.same("poison told stays", Check.flagAt(d, 0), 'p');
        Check.same("as it was read, too", Check.wordAt(d, 0), 0x350);
        Check.same("no word was counted", counted(d), "mended 0, lost 0, faults 0, spares 2");
    }

    static void withoutACodeTheBitsForItAre0() {
        Dramwright d = new Dramwright();
        d.write(0, 0, -5, 15, false);
        Check.finishedWrite(d, 0, 1, 77);
        d.code('n');
        for (int column = 0; column < 2; column++) {
            d.flip(0, 0, 0, column, 39);
        }
        Check.finishedWrite(d, 0, 0, 1234567);
        for (int bit = 32; bit < 40; bit++) {
            Check.same("of a word that was written, " + bit, d.flip(0, 0, 0, 0, bit), 1);
            Check.same("of a word as it was, " + bit, d.flip(0, 0, 0, 1, bit), bit == 39 ? 0 : 1);
        }
    }

    static void lookedAtIsAsTheChoiceSawIt() {
        Dramwright d = new Dramwright();
        d.read(0, 0);
        d.read(0, 0);
        d.go(4);
        Check.same("the younger one was not looked at", d.waits('h'), 4L);
        d.go(1);
        Check.same("r of the older one", Check.trace(d), "a00:0@0 r00:0@4");
        Check.same("nor was it in the choice of this cycle", d.waits('h'), 5L);
        d.go(1);
        Check.same("now it is, and H holds it up", d.waits('h') * 10 + d.waits('s'), 51L);
    }

    static void whatIsToBeIssuedMayBeAShutThatIsWithheld() {
        Dramwright d = new Dramwright();
        d.distance('H', 40);
        d.distance('K', 1);
        Check.finishedRead(d, 0, 0);
        d.read(0, Check.at(0, 0, 1, 0));
        d.read(0, 1);
        long before = d.waits('b') + d.waits('q');
        long shared = d.waits('s');
        d.go(10);
        Check.same("p would keep its distances, and is withheld for the open row", d.commands(), 2);
        Check.same("so it is q for the one", d.waits('b') + d.waits('q') - before, 10L);
        Check.same("and H for the other", d.waits('s') - shared, 10L);
        Check.same("all q, for C ended with 9, ahead of them", d.waits('q') - d.waits('b'), 6L);
    }

    static void asUnder2MeansItsCommandAlone() {
        Dramwright d = new Dramwright();
        d.policy('g', 1);
        for (int bank = 0; bank < 4; bank++) {
            d.read(0, Check.at(0, bank, 0, 0));
        }
        d.finish(100);
        Check.passTill(d, 20);
        d.train(1);
        d.go(1);
        Check.same("O holds up the rank 1", Check.trace(d, 8), "t1@20");
        d.rows('c');
        d.policy('a', 1);
        int before = d.commands();
        d.go(6);
        Check.same("the policy shuts the other banks while the g of the bank 0 waits for B", Check.trace(d, before),
            "p00@21 p01@22 p02@23 p03@24 g00@25 g01@26");
    }

    static void aClosedRankIsNeitherTrainedNorShutByPolicy() {
        for (boolean isTrained : new boolean[] {false, true}) {
            Dramwright d = new Dramwright();
            d.policy('g', 1);
            d.policy('i', 50);
            d.distance('B', 40);
            Check.passTill(d, 360);
            d.read(0, Check.at(0, 0, 0, 0));
            d.read(0, Check.at(0, 2, 0, 0));
            Check.passTill(d, 380);
            d.read(0, Check.at(0, 0, 1, 0));
            Check.passTill(d, 400);
            Check.same("p of the bank 0, whose turn it is", Check.trace(d, 4), "p00@380");
            if (isTrained) {
                d.train(0);
            } else {
                d.rows('c');
            }
            d.go(22);
            Check.same("32 are owed: the bank 2 stays open till the g", Check.trace(d, 5), "g10@400 g00@420 p02@421");
        }
    }

    static void aPatrolThatFindsOneWaitingIsLeftOut() {
        Dramwright d = new Dramwright();
        d.policy('p', 10);
        d.distance('A', 25);
        d.go(11);
        Check.same("it came", d.queued(false), 1);
        d.go(25);
        Check.same("a at 10, r at 35, and none at 20 or 30", Check.trace(d), "a00:0@10 r00:0@35");
        d.go(4);
        Check.same("nor as it is issued", d.queued(false), 0);
        d.go(1);
        Check.same("the next one comes at 40", Check.trace(d, 2), "r00:1@40");
    }

    static void aPatrolComesInTheMultiplesOfItsNumber() {
        Dramwright d = new Dramwright();
        d.go(7);
        d.policy('p', 10);
        d.go(3);
        Check.same("none yet", d.queued(false), 0);
        d.go(1);
        Check.same("at 10, not at 17", d.queued(false), 1);
    }

    /** Replaces the row 8 of the first bank: three words of it are lost as they are read. */
    private static Dramwright withARowReplaced() {
        Dramwright d = new Dramwright();
        d.policy('s', 1);
        for (int column = 0; column < 3; column++) {
            d.flip(0, 0, 8, column, 0);
            d.flip(0, 0, 8, column, 1);
            Check.finishedRead(d, 0, Check.at(0, 0, 8, column));
        }
        Check.same("replaced", d.place(Check.at(0, 0, 8, 0), 'r'), 32);
        return d;
    }

    static void neighboursAreThoseOfTheChip() {
        Dramwright d = withARowReplaced();
        d.policy('h', 2);
        int before = d.commands();
        int[] rows = {9, 20, 9};
        for (int row : rows) {
            Check.finishedRead(d, 0, Check.at(0, 0, row, 0));
        }
        d.go(100);
        String trace = Check.trace(d, before);
        Check.isTrue("8 itself was opened: " + trace, trace.contains("a00:8@"));
        Check.isFalse("not its spare row: " + trace, trace.contains("a00:32@"));
    }

    static void wordsThatAreMovedToASpareRowRestoreItNot() {
        Dramwright d = new Dramwright();
        d.policy('s', 1);
        d.write(0, Check.at(0, 0, 8, 5), 0xFF, 15, false);
        d.finish(100);
        d.code('n');
        d.fade(0, 0, 32, 5, 0, 60);
        d.fade(0, 0, 32, 5, 1, 200);
        d.go(90);
        d.code('s');
        for (int column = 0; column < 3; column++) {
            d.flip(0, 0, 8, column, 0);
            d.flip(0, 0, 8, column, 1);
            Check.finishedRead(d, 0, Check.at(0, 0, 8, column));
        }
        d.code('n');
        Check.same("opened more than 60 cycles behind 0", Check.wordAt(d, Check.at(0, 0, 8, 5)), 0xFE);
        Check.isTrue("less than 200, and less than 60 behind the replacing", d.cycle() < 190);
    }

    static void wordsThatAreMovedRestoreNoRow() {
        Dramwright d = new Dramwright();
        d.policy('i', 2000);
        d.code('n');
        d.flip(0, 0, 0, 0, 0);
        d.fade(0, 0, 0, 0, 0, 70);
        d.go(100);
        d.map(0, false);
        d.go(1);
        Check.same("opened as the 50 cycles end, 150 behind 0", Check.wordAt(d, 0), 0);
        Check.same("at 150", d.command(0, 'c'), 150);
    }

    static void aBitThatFadesWasRestoredInTheCycle0() {
        Dramwright d = new Dramwright();
        d.code('n');
        d.go(100);
        d.flip(0, 0, 0, 0, 0);
        d.fade(0, 0, 0, 0, 0, 70);
        Check.same("100 cycles behind 0, whenever it was told", Check.wordAt(d, 0), 0);
    }

    static void distanceReturnsWhatWasToldWithTheSlowClockToo() {
        Dramwright d = new Dramwright();
        d.slow(true);
        Check.same("9, not 5", d.distance('C', 21), 9);
        Check.same("21, not 11", d.distance('C', 9), 21);
        d.slow(false);
        Check.same("9", d.distance('C', 1), 9);
    }

    static void dataComeOnTheBusInTheOrderOfTheirCommands() {
        Dramwright d = new Dramwright();
        d.distance('L', 40);
        d.judge('a', 0, 0, 1);
        d.judge('a', 0, 2, 9);
        d.judge('r', 0, 0, 9);
        Check.same("its data could end long ahead of those of the r", d.judge('w', 0, 2, 9), 'Q');
        Check.same("42 till those end, and a gap of 1", d.judge('w', 0, 2, 39), 'Q');
        Check.same("so that its own begin at 43", d.judge('w', 0, 2, 40), '-');
    }

    static void dataOfATraceEndAsTheyDidWhenPutThere() {
        Dramwright d = new Dramwright();
        d.judge('a', 0, 0, 1);
        d.judge('w', 0, 0, 9);
        d.distance('M', 50);
        Check.same("3 and 2 cycles behind the w, and I 5", d.judge('p', 0, 0, 9), 'I');
        Check.same("not 50 and 2", d.judge('p', 0, 0, 10), '-');
    }

    static void theBankOfACommandForARankIsLookedAtToo() {
        Dramwright d = new Dramwright();
        for (char letter : "fdxt".toCharArray()) {
            Check.outOfBounds("bank 4 of " + letter, () -> d.judge(letter, 0, 4, 1));
            Check.outOfBounds("bank -1 of " + letter, () -> d.judge(letter, 0, -1, 1));
        }
    }

    static void theFirstOpeningOfABankIsOfAnotherRow() {
        Dramwright d = new Dramwright();
        Check.finishedRead(d, 0, 0);
        Check.same("one more than 2", d.learned(0, 0), 3);
    }

    static void aPatrolIsForwardedAsAnyRead() {
        Dramwright d = new Dramwright();
        d.policy('p', 5);
        d.distance('A', 30);
        d.go(5);
        d.write(0, 0, 1, 15, false);
        d.go(1);
        Check.same("done at once", d.patrolled() * 10 + d.queued(false), 10);
    }

    static void aBitThatSticksIsReadTheOtherWayRoundOutsideTheEye() {
        Dramwright d = new Dramwright();
        d.code('n');
        d.stick(0, 0, 0, 0, 0, true);
        d.eye(0, 20, 1);
        Check.same("the eye looks at what sticks", Check.wordAt(d, 0), 0);
    }
}
