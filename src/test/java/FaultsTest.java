/** The promises 34 to 41. */
final class FaultsTest {
    private FaultsTest() {
    }

    static void promise34Stick() {
        Dramwright d = new Dramwright();
        d.code('n');
        Check.same("one", d.stick(0, 0, 0, 0, 4, true), 1);
        Check.same("two", d.stick(0, 0, 0, 0, 5, false), 2);
        Check.same("reads as told", Check.wordAt(d, 0), 16);
        Check.finishedWrite(d, 0, 0, 0x20);
        Check.same("whatever is written", Check.wordAt(d, 0), 16);
        Check.same("what is stored is another thing", d.flip(0, 0, 0, 0, 5), 0);
        Check.illegal("it sticks", () -> d.stick(0, 0, 0, 0, 4, false));
        Check.illegal("bit 40", () -> d.stick(0, 0, 0, 0, 40, true));
        Check.illegal("bit -1", () -> d.stick(0, 0, 0, 0, -1, true));
        Check.outOfBounds("rank", () -> d.stick(2, 0, 0, 0, 40, true));
        Check.outOfBounds("bank", () -> d.stick(0, 4, 0, 0, 40, true));
        Check.outOfBounds("row", () -> d.stick(0, 0, 34, 0, 40, true));
        Check.outOfBounds("column", () -> d.stick(0, 0, 0, 16, 40, true));
        Check.outOfBounds("column -1", () -> d.stick(0, 0, 0, -1, 0, true));
        for (int i = 3; i <= 20; i++) {
            Check.same("count", d.stick(1, 3, 33, 15, i + 19, true), i);
        }
        Check.badState("20 bits stick", () -> d.stick(0, 0, 1, 0, 0, true));
        Check.illegal("listed first", () -> d.stick(0, 0, 0, 0, 4, true));
    }

    static void promise34StuckCodeBitsAreMended() {
        Dramwright d = new Dramwright();
        d.stick(0, 0, 0, 0, 32, true);
        d.stick(0, 0, 0, 1, 39, true);
        Check.same("a code bit", Check.flagAt(d, 0), 'm');
        Check.same("the word is as it was", Check.wordAt(d, 0), 0);
        Check.same("the code s has 7 bits", Check.flagAt(d, 1), 'r');
        d.code('c');
        Check.same("the code c has 8", Check.flagAt(d, 1), 'm');
    }

    static void promise34BitsStickAlone() {
        Dramwright d = new Dramwright();
        d.code('n');
        Check.finishedWrite(d, 0, 0, -1);
        d.stick(0, 0, 0, 0, 5, false);
        Check.same("none beside it", Check.wordAt(d, 0), ~32);
        for (int bit = 32; bit < 39; bit++) {
            for (int stored = 0; stored < 2; stored++) {
                Dramwright s = new Dramwright();
                for (int other = 32; other < 39 && stored == 1; other++) {
                    s.flip(0, 0, 0, 0, other);
                }
                s.stick(0, 0, 0, 0, bit, stored == 0);
                int code = stored == 0 ? 1 << bit - 32 : 127 & ~(1 << bit - 32);
                char due = Integer.bitCount(code) % 2 == 0 || (code & 63) > 38 ? 'l' : 'm';
                Check.same("code " + code, Check.flagAt(s, 0), due);
            }
        }
    }

    static void promise34CodeBitsStickAtZero() {
        Dramwright d = new Dramwright();
        Check.finishedWrite(d, 0, 0, 1);
        d.stick(0, 0, 0, 0, 32, false);
        Check.same("one code bit of 0, 1 and 6", Check.flagAt(d, 0), 'm');
        Check.same("no data bit", Check.wordAt(d, 0), 1);
        d.stick(0, 0, 0, 0, 33, false);
        Check.same("two of them", Check.flagAt(d, 0), 'l');
        Check.same("the data are as they are", Check.wordAt(d, 0), 1);
        Check.same("the first one is stored", d.flip(0, 0, 0, 0, 32), 0);
        Check.same("the second one is stored", d.flip(0, 0, 0, 0, 33), 0);
    }

    static void promise35Fade() {
        Dramwright d = new Dramwright();
        d.code('n');
        d.rows('c');
        Check.finishedWrite(d, 0, 0, 3);
        d.go(30);
        int restored = d.command(0, 'c');
        Check.same("one", d.fade(0, 0, 0, 0, 0, 100), 1);
        Check.same("two", d.fade(0, 0, 0, 0, 1, 99), 2);
        d.go((int) (restored + 100 - d.cycle()));
        Check.same("100 cycles behind the last time", Check.wordAt(d, 0), 1);
        Check.same("opened then", d.command(d.commands() - 3, 'c'), restored + 100);
        Check.illegal("it fades", () -> d.fade(0, 0, 0, 0, 0, 5));
        Check.illegal("bit 40", () -> d.fade(0, 0, 0, 0, 40, 5));
        Check.illegal("bit -1", () -> d.fade(0, 0, 0, 0, -1, 5));
        Check.illegal("0 cycles", () -> d.fade(0, 0, 0, 0, 3, 0));
        Check.illegal("10000 cycles", () -> d.fade(0, 0, 0, 0, 3, 10000));
        Check.outOfBounds("rank", () -> d.fade(-1, 0, 0, 0, 0, 0));
        Check.outOfBounds("bank", () -> d.fade(0, -1, 0, 0, 0, 0));
        Check.outOfBounds("row", () -> d.fade(0, 0, -1, 0, 0, 0));
        Check.outOfBounds("column", () -> d.fade(0, 0, 0, 16, 0, 0));
        for (int i = 3; i <= 20; i++) {
            Check.same("count", d.fade(1, 3, 33, 15, i, 9999), i);
        }
        Check.badState("20 bits fade", () -> d.fade(0, 0, 1, 0, 0, 1));
        Check.illegal("listed first", () -> d.fade(0, 0, 0, 0, 0, 5));
    }

    static void promise35FadesWhereItIsTold() {
        Dramwright d = new Dramwright();
        d.code('n');
        int address = Check.at(1, 2, 3, 4);
        d.write(0, address, -1, 15, false);
        Check.finishedWrite(d, 0, address + 1, -1);
        d.fade(1, 2, 3, 4, 31, 1);
        d.fade(1, 2, 3, 4, 32, 1);
        d.fade(1, 2, 3, 5, 31, 9999);
        d.flip(1, 2, 3, 4, 32);
        Check.illegal("it fades", () -> d.fade(1, 2, 3, 5, 31, 1));
        Check.finishedRead(d, 0, Check.at(1, 2, 9, 4));
        Check.same("its bit", Check.wordAt(d, address), 0x7FFFFFFF);
        Check.same("not the other word's", Check.wordAt(d, address + 1), -1);
        Check.same("a code bit, too", d.flip(1, 2, 3, 4, 32), 1);
    }

    static void promise35RestoringIsOfTheRowAlone() {
        Dramwright d = new Dramwright();
        d.code('n');
        d.rows('c');
        int[] lines = {Check.at(0, 1, 5, 0), Check.at(0, 1, 6, 0), Check.at(0, 2, 5, 0), Check.at(1, 1, 5, 0)};
        for (int address : lines) {
            d.write(0, address, 3, 15, false);
        }
        d.finish(300);
        for (int address : lines) {
            d.fade(d.place(address, 'k'), d.place(address, 'b'), d.place(address, 'r'), 0, 0, 150);
        }
        d.read(0, lines[0]);
        Check.pass(d, 120);
        d.read(0, lines[0]);
        Check.pass(d, 120);
        Check.same("opened often enough", Check.wordAt(d, lines[0]), 3);
        Check.same("a neighbour", Check.wordAt(d, lines[1]), 2);
        Check.same("another bank", Check.wordAt(d, lines[2]), 2);
        Check.same("another rank", Check.wordAt(d, lines[3]), 2);
    }

    static void promise35OtherRowsAreNotRestored() {
        Dramwright d = new Dramwright();
        d.rows('c');
        int[][] lines = {{0, 1, 4}, {0, 1, 6}, {0, 1, 7}, {0, 0, 5}, {0, 2, 5}, {1, 1, 5}};
        for (int[] line : lines) {
            d.flip(line[0], line[1], line[2], 0, 1);
            d.fade(line[0], line[1], line[2], 0, 1, 5);
        }
        d.flip(0, 1, 5, 0, 1);
        d.fade(0, 1, 5, 0, 1, 5);
        Check.pass(d, 100);
        Check.finishedRead(d, 0, Check.at(0, 1, 5, 3));
        Check.same("the row that was opened", d.flip(0, 1, 5, 0, 1), 1);
        for (int[] line : lines) {
            Check.same("another one", d.flip(line[0], line[1], line[2], 0, 1), 0);
        }
    }

    static void promise35AnFRestoresAllRowsOfItsRank() {
        int[][] lines = {{0, 0, 0}, {0, 0, 33}, {0, 1, 6}, {0, 3, 0}, {0, 3, 31}, {0, 3, 33}};
        Dramwright d = new Dramwright();
        for (int[] line : lines) {
            for (int rank = 0; rank < 2; rank++) {
                d.flip(rank, line[1], line[2], 15, 31);
                d.fade(rank, line[1], line[2], 15, 31, 50);
            }
        }
        d.go(51);
        d.policy('a', 1);
        d.go(1);
        Check.same("f of the rank 0", Check.trace(d), "f0@51");
        for (int[] line : lines) {
            Check.same("rank 0 faded", d.flip(0, line[1], line[2], 15, 31), 1);
            Check.same("rank 1 did not", d.flip(1, line[1], line[2], 15, 31), 0);
        }
    }

    static void promise35AGRestoresAllRowsOfItsBank() {
        Dramwright d = new Dramwright();
        int[] rows = {0, 17, 33};
        for (int row : rows) {
            for (int bank = 0; bank < 4; bank++) {
                d.flip(0, bank, row, 0, 0);
                d.fade(0, bank, row, 0, 0, 50);
            }
        }
        d.go(51);
        d.policy('a', 1);
        d.policy('g', 1);
        d.go(2);
        Check.same("g of the banks 0 and 1", Check.trace(d), "g00@51 g01@52");
        for (int row : rows) {
            for (int bank = 0; bank < 4; bank++) {
                Check.same("bank " + bank, d.flip(0, bank, row, 0, 0), bank < 2 ? 1 : 0);
            }
        }
    }

    static void promise35FadingCodeBits() {
        Dramwright d = new Dramwright();
        d.rows('c');
        d.write(0, 0, 1, 15, false);
        Check.pass(d, 50);
        for (int bit = 32; bit < 39; bit += 3) {
            d.flip(0, 0, 0, 0, bit);
        }
        StringBuilder before = new StringBuilder();
        for (int bit = 30; bit < 40; bit++) {
            before.append(1 - d.flip(0, 0, 0, 0, bit));
            d.flip(0, 0, 0, 0, bit);
        }
        Check.same("the code 3 and 6 changed by 9 and 6", before.toString(), "0001010000");
        d.fade(0, 0, 0, 0, 33, 1);
        d.read(0, 0);
        Check.pass(d, 50);
        Check.same("it faded", d.flip(0, 0, 0, 0, 33), 1);
        Check.same("the one above stays", d.flip(0, 0, 0, 0, 34), 1);
        Check.same("and the one above that", d.flip(0, 0, 0, 0, 35), 0);
    }

    static void promise35FadeTwiceAsFastInWarmth() {
        for (int warmth = 49; warmth <= 50; warmth++) {
            Dramwright d = new Dramwright();
            d.code('n');
            d.rows('c');
            d.warmth(warmth);
            d.eye(0, 0, 16);
            Check.finishedWrite(d, 0, 0, 2);
            int restored = d.command(0, 'c');
            d.fade(0, 0, 0, 0, 1, 100);
            d.go((int) (restored + 50 - d.cycle()));
            Check.same("twice 50 is not more than 100", Check.wordAt(d, 0), 2);
            d.finish(300);
            d.go(1);
            d.go((int) (restored + 50 + 51 - d.cycle()));
            Check.same("at " + warmth, Check.wordAt(d, 0), warmth < 50 ? 2 : 0);
        }
    }

    static void promise35RefreshRestores() {
        Dramwright d = new Dramwright();
        d.code('n');
        d.rows('c');
        d.policy('i', 50);
        d.policy('a', 1);
        Check.finishedWrite(d, 0, Check.at(0, 0, 6, 0), 1);
        d.fade(0, 0, 6, 0, 0, 150);
        Check.pass(d, 600);
        Check.same("refreshed often enough", Check.wordAt(d, Check.at(0, 0, 6, 0)), 1);
        d.policy('g', 1);
        Check.pass(d, 600);
        Check.same("by banks, too", Check.wordAt(d, Check.at(0, 0, 6, 0)), 1);
        d.policy('a', 0);
        d.policy('i', 2000);
        Check.pass(d, 600);
        Check.same("no longer", Check.wordAt(d, Check.at(0, 0, 6, 0)), 0);
    }

    static void promise36Flip() {
        Dramwright d = new Dramwright();
        Check.same("1", d.flip(0, 1, 2, 3, 31), 1);
        Check.same("mended", Check.flagAt(d, Check.at(0, 1, 2, 3)), 'm');
        Check.same("0", d.flip(0, 1, 2, 3, 31), 0);
        Check.same("right", Check.flagAt(d, Check.at(0, 1, 2, 3)), 'r');
        Check.same("a code bit", d.flip(0, 1, 2, 3, 38), 1);
        Check.same("mended", Check.flagAt(d, Check.at(0, 1, 2, 3)), 'm');
        Check.same("the last one", d.flip(0, 1, 2, 3, 39), 1);
        Check.illegal("40", () -> d.flip(0, 0, 0, 0, 40));
        Check.illegal("-1", () -> d.flip(0, 0, 0, 0, -1));
        Check.outOfBounds("rank", () -> d.flip(2, 0, 0, 0, 40));
        Check.outOfBounds("bank", () -> d.flip(0, 4, 0, 0, 0));
        Check.outOfBounds("row", () -> d.flip(0, 0, 34, 0, 0));
        Check.outOfBounds("column", () -> d.flip(0, 0, 0, 16, 0));
    }

    static void promise37Eye() {
        Dramwright d = new Dramwright();
        d.code('n');
        Check.same("the delay", d.eye(0, 0, 7), 8);
        Check.same("2 to 8: within", Check.wordAt(d, 0), 0);
        d.eye(0, 0, 6);
        Check.same("2 to 7: outside", Check.wordAt(d, 0), 1);
        d.eye(0, 6, 1);
        Check.same("8 to 8: within", Check.wordAt(d, 0), 0);
        d.eye(0, 7, 16);
        Check.same("9 to 24: outside", Check.wordAt(d, 0), 1);
        Check.same("the other rank has its own", Check.wordAt(d, Check.at(1, 0, 0, 0)), 0);
        Dramwright s = new Dramwright();
        s.eye(0, 7, 16);
        Check.same("ahead of the code's look", Check.flagAt(s, 1), 'm');
        Check.same("which mends it", Check.wordAt(s, 1), 0);
        Check.outOfBounds("rank 2", () -> d.eye(2, 0, 0));
        Check.outOfBounds("rank -1", () -> d.eye(-1, 0, 1));
        Check.illegal("begin -1", () -> d.eye(0, -1, 1));
        Check.illegal("begin 21", () -> d.eye(0, 21, 1));
        Check.illegal("width 0", () -> d.eye(0, 0, 0));
        Check.illegal("width 17", () -> d.eye(0, 0, 17));
    }

    static void promise38Train() {
        Dramwright d = new Dramwright();
        d.read(0, Check.at(1, 0, 0, 0));
        Check.finishedRead(d, 0, Check.at(1, 3, 0, 0));
        Check.isTrue("new", d.train(1));
        Check.isFalse("told already", d.train(1));
        Check.isTrue("the other one", d.train(0));
        int before = d.commands();
        d.go(30);
        Check.same("rank 0 has no open bank",
            Check.trace(d, before), "t0@13 p10@14 p13@15 t1@19");
        Check.same("midst of 6 to 13, the lower one", d.delay(0), 9);
        Check.same("the same eye at first", d.delay(1), 9);
        Check.isTrue("it was trained", d.train(0));
        Check.outOfBounds("2", () -> d.train(2));
        Check.outOfBounds("-1", () -> d.train(-1));
    }

    static void promise39Delay() {
        int[][] cases = {{0, 1, 0, 0}, {0, 2, 0, 0}, {0, 3, 0, 1}, {20, 16, 99, 31}, {20, 5, 99, 31}, {20, 4, 99, 30}};
        for (int[] one : cases) {
            Dramwright d = new Dramwright();
            d.eye(1, one[0], one[1]);
            d.warmth(one[2]);
            Check.same("not yet", d.delay(1), 8);
            d.train(1);
            d.go(1);
            Check.same("midst", d.delay(1), one[3]);
            Check.same("the other one", d.delay(0), 8);
        }
        Dramwright d = new Dramwright();
        Check.outOfBounds("2", () -> d.delay(2));
        Check.outOfBounds("-1", () -> d.delay(-1));
    }

    static void promise40Faults() {
        Dramwright d = new Dramwright();
        d.flip(0, 0, 5, 0, 0);
        d.flip(0, 0, 5, 1, 0);
        d.flip(0, 0, 5, 1, 1);
        Check.flagAt(d, Check.at(0, 0, 5, 0));
        Check.flagAt(d, Check.at(0, 0, 5, 0));
        Check.same("each reading", d.faults(0, 0, 5), 2);
        Check.flagAt(d, Check.at(0, 0, 5, 1));
        Check.flagAt(d, Check.at(0, 0, 5, 2));
        Check.same("lost ones, too, right ones not", d.faults(0, 0, 5), 3);
        Check.same("spare rows are not used", d.place(Check.at(0, 0, 5, 0), 'r'), 5);
        d.policy('s', 1);
        Check.flagAt(d, Check.at(0, 0, 5, 2));
        Check.same("nothing was wrong", d.place(Check.at(0, 0, 5, 0), 'r'), 5);
        Check.flagAt(d, Check.at(0, 0, 5, 0));
        Check.same("at least 3", d.place(Check.at(0, 0, 5, 0), 'r'), 32);
        Check.outOfBounds("rank", () -> d.faults(2, 0, 0));
        Check.outOfBounds("bank", () -> d.faults(0, 4, 0));
        Check.outOfBounds("row 34", () -> d.faults(0, 0, 34));
        Check.outOfBounds("row -1", () -> d.faults(0, 0, -1));
    }

    static void promise41Spares() {
        Dramwright d = new Dramwright();
        d.policy('s', 1);
        wearOut(d, 7);
        Check.same("the first one", d.place(Check.at(0, 0, 7, 0), 'r'), 32);
        Check.same("one is left", d.spares(0, 0), 1);
        wearOut(d, 7);
        Check.same("a spare row is replaced, too", d.place(Check.at(0, 0, 7, 0), 'r'), 33);
        Check.same("none is left", d.spares(0, 0), 0);
        wearOut(d, 7);
        Check.same("it stays", d.place(Check.at(0, 0, 7, 0), 'r'), 33);
        wearOut(d, 8);
        Check.same("it stays", d.place(Check.at(0, 0, 8, 0), 'r'), 8);
        Check.same("another bank", d.spares(0, 1), 2);
        Check.outOfBounds("rank", () -> d.spares(2, 0));
        Check.outOfBounds("rank -1", () -> d.spares(-1, 0));
        Check.outOfBounds("bank", () -> d.spares(0, 4));
        Check.outOfBounds("bank -1", () -> d.spares(0, -1));
    }

    private static void wearOut(Dramwright d, int row) {
        int used = d.place(Check.at(0, 0, row, 0), 'r');
        d.flip(0, 0, used, 0, 3);
        for (int i = 0; i < 3; i++) {
            Check.flagAt(d, Check.at(0, 0, row, 0));
        }
        Check.same("faults", d.faults(0, 0, used), 3);
    }

    static void promise41OtherBanksKeepTheirRows() {
        for (int rank = 0; rank < 2; rank++) {
            for (int bank = 0; bank < 4; bank++) {
                Dramwright d = new Dramwright();
                d.policy('s', 1);
                d.flip(rank, bank, 0, 0, 3);
                for (int i = 0; i < 3; i++) {
                    Check.flagAt(d, Check.at(rank, bank, 0, 0));
                }
                for (int other = 0; other < 8; other++) {
                    int due = other == rank * 4 + bank ? 32 : 0;
                    Check.same("row 0", d.place(Check.at(other / 4, other % 4, 0, 0), 'r'), due);
                    Check.same("row 1", d.place(Check.at(other / 4, other % 4, 1, 0), 'r'), 1);
                }
            }
        }
    }

    static void promise41TheSecondSpareRowTakesNoMoreThanItsWords() {
        Dramwright d = new Dramwright();
        d.policy('s', 1);
        d.write(0, Check.at(0, 0, 8, 0), 8, 15, false);
        Check.finishedWrite(d, 0, Check.at(0, 1, 0, 0), 10);
        wearOut(d, 7);
        wearOut(d, 7);
        Check.same("both are used", d.spares(0, 0), 0);
        Check.same("the row behind the one replaced", Check.wordAt(d, Check.at(0, 0, 8, 0)), 8);
        Check.same("the first row of the next bank", Check.wordAt(d, Check.at(0, 1, 0, 0)), 10);
    }

    static void promise41WaitingRequestsMeanTheSpareRow() {
        Dramwright d = new Dramwright();
        d.policy('s', 1);
        for (int column = 0; column < 3; column++) {
            d.flip(0, 0, 4, column, 3);
            d.read(0, Check.at(0, 0, 4, column));
        }
        d.read(0, Check.at(0, 0, 4, 3));
        d.read(0, Check.at(0, 0, 4, 4));
        d.read(0, Check.at(0, 0, 9, 3));
        d.read(0, Check.at(0, 1, 4, 3));
        Check.finishedRead(d, 0, Check.at(1, 0, 4, 3));
        Check.same("trace", Check.trace(d), "a00:4@0 a10:4@1 a01:4@3 r00:0@4 r00:1@7 r00:2@10 r01:3@13 p00@14"
            + " r10:3@16 a00:32@18 r00:3@22 r00:4@25 p00@28 a00:9@32 r00:3@36");
    }

    static void promise41WordsMoveAsRead() {
        Dramwright d = new Dramwright();
        d.policy('s', 1);
        d.write(0, 0, 100, 15, false);
        d.write(0, 1, 101, 15, true);
        Check.finishedWrite(d, 0, 2, 102);
        d.flip(0, 0, 0, 0, 9);
        d.flip(0, 0, 0, 2, 9);
        d.flip(0, 0, 0, 2, 10);
        int lost = Check.wordAt(d, 2);
        Check.flagAt(d, 2);
        Check.flagAt(d, 2);
        Check.same("replaced", d.place(0, 'r'), 32);
        Check.same("mended and made anew", Check.flagAt(d, 0), 'r');
        Check.same("mended", Check.wordAt(d, 0), 100);
        Check.same("poison moves", Check.flagAt(d, 1), 'p');
        Check.same("with its word", Check.wordAt(d, 1), 101);
        Check.same("a lost word is poisoned", Check.flagAt(d, 2), 'p');
        Check.same("and as it was read", Check.wordAt(d, 2), lost);
        Check.same("moving is no reading", d.mended() * 10 + d.lost(), 3);
    }

    static void promise35FadesEachTime() {
        Dramwright d = new Dramwright();
        d.code('n');
        d.fade(0, 0, 0, 0, 0, 30);
        for (int times = 0; times < 3; times++) {
            Check.finishedWrite(d, 0, 0, 1);
            d.go(60);
            Check.finishedRead(d, 0, Check.at(0, 0, 1, 0));
            Check.same("shut and opened anew, time " + times, Check.wordAt(d, 0), 0);
        }
    }

    static void promise40PatrolsCount() {
        Dramwright d = new Dramwright();
        d.policy('s', 1);
        for (int column = 0; column < 3; column++) {
            d.flip(0, 0, 0, column, 4);
        }
        d.policy('p', 20);
        d.go(50);
        Check.same("those of 20 and 40", d.faults(0, 0, 0) * 10 + d.mended(), 22);
        Check.same("not yet", d.place(0, 'r'), 0);
        d.go(20);
        Check.same("that of 60", d.faults(0, 0, 0), 3);
        Check.same("so the row is replaced", d.place(0, 'r') * 10 + d.spares(0, 0), 321);
    }

    static void promise41AWaitingPatrolMeansTheSpareRow() {
        Dramwright d = new Dramwright();
        d.policy('s', 1);
        d.policy('b', 10);
        d.distance('H', 30);
        for (int column = 0; column < 3; column++) {
            d.flip(0, 0, 0, column + 1, 4);
            d.read(0, column + 1);
        }
        d.go(10);
        d.policy('p', 60);
        d.go(60);
        Check.same("one patrol waits", d.queued(false), 1);
        Check.same("and its row was replaced", d.place(0, 'r'), 32);
        d.policy('p', 0);
        d.go(100);
        Check.same("done, of the spare row", d.patrolled() + " " + Check.trace(d).contains("a00:32"), "1 true");
    }
}
