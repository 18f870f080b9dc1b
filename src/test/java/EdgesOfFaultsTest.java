/** The boundary cases of the promises 34 to 41 and of the Terms "Faults" and "Codes", each one on both sides. */
final class EdgesOfFaultsTest {
    private EdgesOfFaultsTest() {
    }

    /** A call for a bit. */
    private interface BitCall {
        int make(Dramwright d, int rank, int bank, int row, int column, int bit);
    }

    private static int stick(Dramwright d, int rank, int bank, int row, int column, int bit) {
        return d.stick(rank, bank, row, column, bit, true);
    }

    private static int fade(Dramwright d, int rank, int bank, int row, int column, int bit) {
        return d.fade(rank, bank, row, column, bit, 9);
    }

    private static int flip(Dramwright d, int rank, int bank, int row, int column, int bit) {
        return d.flip(rank, bank, row, column, bit);
    }

    /** The least and the largest of each number are taken, the next ones are not, and places go ahead of bits. */
    private static void takesBits(BitCall call) {
        Check.same("the first bit of all", call.make(new Dramwright(), 0, 0, 0, 0, 0), 1);
        Check.same("the last bit of all", call.make(new Dramwright(), 1, 3, 33, 15, 39), 1);
        int[][] wrong = {
            {-1, 0, 0, 0, 0}, {2, 0, 0, 0, 0}, {0, -1, 0, 0, 0}, {0, 4, 0, 0, 0},
            {0, 0, -1, 0, 0}, {0, 0, 34, 0, 0}, {0, 0, 0, -1, 0}, {0, 0, 0, 16, 0},
            {2, 0, 0, 0, 40}, {0, 4, 0, 0, -1}, {0, 0, 34, 0, 40}, {0, 0, 0, 16, -1},
        };
        for (int[] at : wrong) {
            Twins.outOfBounds("place", Twins::busy, d -> call.make(d, at[0], at[1], at[2], at[3], at[4]));
        }
        for (int far : Check.FAR) {
            Check.outOfBounds("rank", () -> call.make(new Dramwright(), far, 0, 0, 0, 0));
            Check.outOfBounds("bank", () -> call.make(new Dramwright(), 0, far, 0, 0, 0));
            Check.outOfBounds("row", () -> call.make(new Dramwright(), 0, 0, far, 0, 0));
            Check.outOfBounds("column", () -> call.make(new Dramwright(), 0, 0, 0, far, 0));
            Check.illegal("bit", () -> call.make(new Dramwright(), 0, 0, 0, 0, far));
        }
        Twins.illegal("bit -1", Twins::busy, d -> call.make(d, 1, 3, 33, 15, -1));
        Twins.illegal("bit 40", Twins::busy, d -> call.make(d, 0, 0, 0, 0, 40));
    }

    static void stickTakesBits0To39() {
        takesBits(EdgesOfFaultsTest::stick);
    }

    static void fadeTakesBits0To39() {
        takesBits(EdgesOfFaultsTest::fade);
    }

    static void flipTakesBits0To39() {
        takesBits(EdgesOfFaultsTest::flip);
    }

    private static void stickTwenty(Dramwright d) {
        for (int i = 0; i < 20; i++) {
            Check.same("how many stick", d.stick(0, 0, 0, 0, 2 * i, i % 2 == 0), i + 1);
        }
    }

    private static void fadeTwenty(Dramwright d) {
        for (int i = 0; i < 20; i++) {
            Check.same("how many fade", d.fade(0, 0, 0, 0, 2 * i, 1 + i), i + 1);
        }
    }

    static void stickTakes20Bits() {
        Twins.badState("the 21st, beside", EdgesOfFaultsTest::stickTwenty, d -> d.stick(0, 0, 0, 0, 1, true));
        Twins.badState("the 21st, elsewhere", EdgesOfFaultsTest::stickTwenty, d -> d.stick(1, 3, 33, 15, 39, true));
    }

    static void twentyBitsStickWhileTwentyFade() {
        Dramwright d = new Dramwright();
        for (int i = 0; i < 20; i++) {
            Check.same("fades", d.fade(0, 0, 0, 0, i, 9999), i + 1);
        }
        for (int i = 0; i < 20; i++) {
            Check.same("sticks", d.stick(0, 0, 0, 0, i, false), i + 1);
        }
        Check.badState("the 21st that fades", () -> d.fade(0, 0, 0, 0, 20, 9999));
        Check.badState("the 21st that sticks", () -> d.stick(0, 0, 0, 0, 20, false));
    }

    static void stickRefusesABitThatSticks() {
        Twins.illegal("it sticks", Twins::busy, d -> d.stick(0, 0, 5, 1, 7, true));
        Twins.illegal("at the other value, too", Twins::busy, d -> d.stick(0, 0, 5, 1, 7, false));
        Dramwright d = new Dramwright();
        d.stick(0, 0, 5, 1, 7, true);
        int[][] beside = {{0, 0, 5, 1, 6}, {0, 0, 5, 1, 8}, {0, 0, 5, 2, 7}, {0, 0, 6, 1, 7}, {0, 1, 5, 1, 7}, {1, 0, 5, 1, 7}};
        for (int i = 0; i < beside.length; i++) {
            int[] at = beside[i];
            Check.same("others do not", d.stick(at[0], at[1], at[2], at[3], at[4], true), i + 2);
        }
        Check.same("fading is another thing", d.fade(0, 0, 5, 1, 7, 1), 1);
    }

    static void stickThrowsTheExceptionListedFirst() {
        Twins.illegal("it sticks, and 20 do", EdgesOfFaultsTest::stickTwenty, d -> d.stick(0, 0, 0, 0, 0, true));
        Twins.illegal("no such bit, and 20 stick", EdgesOfFaultsTest::stickTwenty, d -> d.stick(0, 0, 0, 0, 40, true));
        Twins.outOfBounds("no such row, and 20 stick", EdgesOfFaultsTest::stickTwenty, d -> d.stick(0, 0, 34, 0, 40, true));
    }

    static void fadeTakes20Bits() {
        Twins.badState("the 21st, beside", EdgesOfFaultsTest::fadeTwenty, d -> d.fade(0, 0, 0, 0, 1, 1));
        Twins.badState("the 21st, elsewhere", EdgesOfFaultsTest::fadeTwenty, d -> d.fade(1, 3, 33, 15, 39, 9999));
    }

    static void fadeRefusesABitThatFades() {
        Twins.illegal("it fades", Twins::busy, d -> d.fade(0, 0, 5, 2, 3, 60));
        Twins.illegal("for other cycles, too", Twins::busy, d -> d.fade(0, 0, 5, 2, 3, 61));
        Dramwright d = new Dramwright();
        d.fade(0, 0, 5, 2, 3, 60);
        int[][] beside = {{0, 0, 5, 2, 2}, {0, 0, 5, 2, 4}, {0, 0, 5, 1, 3}, {0, 0, 4, 2, 3}, {0, 1, 5, 2, 3}, {1, 0, 5, 2, 3}};
        for (int i = 0; i < beside.length; i++) {
            int[] at = beside[i];
            Check.same("others do not", d.fade(at[0], at[1], at[2], at[3], at[4], 60), i + 2);
        }
        Check.same("sticking is another thing", d.stick(0, 0, 5, 2, 3, true), 1);
    }

    static void fadeTakes1To9999Cycles() {
        Dramwright d = new Dramwright();
        Check.same("1 is taken", d.fade(0, 0, 0, 0, 0, 1), 1);
        Check.same("9999 is taken", d.fade(0, 0, 0, 0, 1, 9999), 2);
        Twins.illegal("0", Twins::busy, e -> e.fade(0, 0, 0, 0, 0, 0));
        Twins.illegal("10000", Twins::busy, e -> e.fade(0, 0, 0, 0, 0, 10000));
        for (int far : Check.FAR) {
            Check.illegal("far " + far, () -> d.fade(0, 0, 0, 0, 2, far));
        }
    }

    static void fadeThrowsTheExceptionListedFirst() {
        Twins.illegal("it fades, and 20 do", EdgesOfFaultsTest::fadeTwenty, d -> d.fade(0, 0, 0, 0, 0, 1));
        Twins.illegal("number, and 20 fade", EdgesOfFaultsTest::fadeTwenty, d -> d.fade(0, 0, 0, 0, 1, 0));
        Twins.illegal("bit, and 20 fade", EdgesOfFaultsTest::fadeTwenty, d -> d.fade(0, 0, 0, 0, -1, 1));
        Twins.outOfBounds("column, and 20 fade", EdgesOfFaultsTest::fadeTwenty, d -> d.fade(0, 0, 0, 16, 40, 0));
    }

    static void flipTurnsEachBitAsItIsStored() {
        Dramwright d = new Dramwright();
        for (int bit = 0; bit < 40; bit++) {
            Check.same("at first 0", d.flip(1, 3, 33, 15, bit), 1);
            Check.same("and back", d.flip(1, 3, 33, 15, bit), 0);
        }
        d.stick(0, 0, 0, 0, 5, true);
        Check.same("a bit that sticks at 1 is stored as 0, and turned", d.flip(0, 0, 0, 0, 5), 1);
        Check.same("and turned back", d.flip(0, 0, 0, 0, 5), 0);
    }

    static void aBitThatSticksReadsAsToldWhateverIsWritten() {
        for (int bit : new int[] {0, 31}) {
            for (int one = 0; one < 2; one++) {
                Dramwright d = new Dramwright();
                d.code('n');
                d.stick(0, 0, 0, 0, bit, one == 1);
                for (int word : new int[] {0, -1}) {
                    Check.finishedWrite(d, 0, 0, word);
                    int due = one == 1 ? word | 1 << bit : word & ~(1 << bit);
                    Check.same("bit " + bit + " at " + one, Check.wordAt(d, 0), due);
                }
            }
        }
    }

    static void stuckBitsOfTheCodeAreAboveTheData() {
        for (int bit = 32; bit < 40; bit++) {
            Dramwright d = new Dramwright();
            d.code('c');
            d.stick(0, 0, 0, 0, bit, true);
            Check.same("bit " + bit + " of the code c", Check.flagAt(d, 0), 'm');
            Check.same("the data are as they are", Check.wordAt(d, 0), 0);
            Dramwright s = new Dramwright();
            s.stick(0, 0, 0, 0, bit, true);
            Check.same("bit " + bit + " of the code s, which has 7", Check.flagAt(s, 0), bit < 39 ? 'm' : 'r');
            Dramwright n = new Dramwright();
            n.code('n');
            n.stick(0, 0, 0, 0, bit, true);
            Check.same("none is looked at", Check.flagAt(n, 0), 'r');
        }
    }

    static void codeSMendsEveryPlaceFrom1To38AndCodeBit6() {
        int place = 0;
        for (int bit = 0; bit < 32; bit++) {
            do {
                place++;
            } while (Integer.bitCount(place) == 1);
            Dramwright d = new Dramwright();
            Check.finishedWrite(d, 0, 0, 0x5A5A5A5A);
            for (int k = 0; k < 6; k++) {
                if ((place >> k & 1) == 1) {
                    d.flip(0, 0, 0, 0, 32 + k);
                }
            }
            boolean isEven = Integer.bitCount(place) % 2 == 0;
            if (isEven) {
                d.flip(0, 0, 0, 0, 38);
            }
            Check.same("z is " + place + ", odd", Check.flagAt(d, 0), 'm');
            Check.same("the bit of that place", Check.wordAt(d, 0), 0x5A5A5A5A ^ 1 << bit);
            d.flip(0, 0, 0, 0, 38);
            Check.same("z is " + place + ", even", Check.flagAt(d, 0), 'l');
            Check.same("as it is", Check.wordAt(d, 0), 0x5A5A5A5A);
        }
        Check.same("the last place", place, 38);
    }

    static void codeSMendsACodeBitIfZIs0OrAPowerOf2() {
        for (int k = 0; k < 7; k++) {
            Dramwright d = new Dramwright();
            Check.finishedWrite(d, 0, 0, 0x13579BDF);
            d.flip(0, 0, 0, 0, 32 + k);
            Check.same("code bit " + k, Check.flagAt(d, 0), 'm');
            Check.same("the data stay", Check.wordAt(d, 0), 0x13579BDF);
        }
    }

    static void codeSIsLostAbove38() {
        for (int z = 39; z < 64; z++) {
            Dramwright d = new Dramwright();
            for (int k = 0; k < 6; k++) {
                if ((z >> k & 1) == 1) {
                    d.flip(0, 0, 0, 0, 32 + k);
                }
            }
            if (Integer.bitCount(z) % 2 == 0) {
                d.flip(0, 0, 0, 0, 38);
            }
            Check.same("z is " + z + ", odd", Check.flagAt(d, 0), 'l');
            Check.same("as it is", Check.wordAt(d, 0), 0);
            d.flip(0, 0, 0, 0, 38);
            Check.same("z is " + z + ", even", Check.flagAt(d, 0), 'l');
        }
    }

    private static int twice(int digit) {
        int shifted = digit << 1;
        return shifted > 15 ? shifted ^ 19 : shifted;
    }

    /** Turns bits of the code of the first word. */
    private static void turnCode(Dramwright d, int bits) {
        for (int i = 0; i < 8; i++) {
            if ((bits >> i & 1) == 1) {
                d.flip(0, 0, 0, 0, 32 + i);
            }
        }
    }

    static void codeCMendsTheDigitThatFitsFrom0To7() {
        for (int u = 0; u < 16; u++) {
            Dramwright d = new Dramwright();
            d.code('c');
            for (int v = 0; v < 16; v++) {
                turnCode(d, u | v << 4);
                int digit = -1;
                int doubled = u;
                for (int k = 0; k < 8 && digit < 0; k++) {
                    digit = doubled == v ? k : -1;
                    doubled = twice(doubled);
                }
                char due = u == 0 && v == 0 ? 'r' : u == 0 || v == 0 || digit >= 0 ? 'm' : 'l';
                int word = u != 0 && v != 0 && digit >= 0 ? u << 4 * digit : 0;
                int request = Check.finishedRead(d, 0, 0);
                Check.same("u " + u + " v " + v, d.flagOf(request), due);
                Check.same("u " + u + " v " + v, d.valueOf(request), word);
                turnCode(d, u | v << 4);
            }
        }
    }

    static void aChangeOfTheCodeMakesTheCodesOfAllWordsAnewByWhatIsRead() {
        int[][] words = {{0, 0, 0, 0}, {0, 3, 31, 15}, {1, 0, 32, 0}, {1, 3, 33, 15}};
        for (int[] at : words) {
            Dramwright d = new Dramwright();
            d.flip(at[0], at[1], at[2], at[3], 0);
            d.flip(at[0], at[1], at[2], at[3], 1);
            d.code('c');
            StringBuilder code = new StringBuilder();
            for (int bit = 39; bit >= 32; bit--) {
                code.append(1 - d.flip(at[0], at[1], at[2], at[3], bit));
            }
            Check.same("3 was lost, and read as it is: a digit 3 of the chip 0", code.toString(), "00110011");
        }
        Dramwright d = new Dramwright();
        Check.finishedWrite(d, 0, 0, 0x50);
        d.flip(0, 0, 0, 0, 31);
        d.code('c');
        Check.same("the code of the word as it was mended", Check.flagAt(d, 0), 'm');
        Check.same("mends it again", Check.wordAt(d, 0), 0x50);
        d.code('n');
        d.flip(0, 0, 0, 0, 31);
        Check.same("the bit is stored as it was turned, and now turned back", Check.wordAt(d, 0), 0x50);
    }

    static void theCodeThatHoldsIsNoChange() {
        Dramwright d = new Dramwright();
        d.flip(0, 0, 0, 0, 32);
        d.flip(0, 0, 0, 1, 0);
        d.flip(0, 0, 0, 1, 1);
        d.code('s');
        Check.same("a code bit is still wrong", Check.flagAt(d, 0), 'm');
        Check.same("a lost word is still lost", Check.flagAt(d, 1), 'l');
    }

    static void aBitFadesWhenMoreCyclesPassThanItBears() {
        int[][] cases = {{20, 60, 60, 1}, {20, 60, 61, 0}, {49, 60, 60, 1}, {49, 60, 61, 0}, {50, 60, 30, 1},
            {50, 60, 31, 0}, {99, 60, 30, 1}, {99, 60, 31, 0}, {50, 61, 30, 1}, {50, 61, 31, 0}, {0, 1, 1, 1}, {0, 1, 2, 0},
            {50, 1, 1, 0}, {50, 9999, 4999, 1}, {50, 9999, 5000, 0}, {20, 9999, 9999, 1}, {20, 9999, 10000, 0}};
        for (int[] one : cases) {
            Dramwright d = new Dramwright();
            d.policy('i', 2000);
            d.warmth(one[0]);
            d.flip(0, 0, 0, 0, 0);
            d.fade(0, 0, 0, 0, 0, one[1]);
            Check.pass(d, one[2]);
            d.read(0, 5);
            d.go(1);
            Check.same("opened in the cycle", d.command(0, 'c'), one[2]);
            Check.same("warmth " + one[0] + ", bears " + one[1] + ", behind " + one[2],
                1 - d.flip(0, 0, 0, 0, 0), one[3]);
        }
    }

    static void aBitThatFadesMayBeWrittenAgain() {
        Dramwright d = new Dramwright();
        d.code('n');
        d.fade(0, 0, 0, 0, 0, 1);
        Check.finishedWrite(d, 0, 0, 1);
        Check.same("written behind the a", Check.wordAt(d, 0), 1);
        d.go(100);
        Check.same("the row is open, and not restored anew", Check.wordAt(d, 0), 1);
    }

    static void eyeTakesRanks0And1() {
        Twins.outOfBounds("-1", Twins::busy, d -> d.eye(-1, 4, 8));
        Twins.outOfBounds("2", Twins::busy, d -> d.eye(2, 4, 8));
        for (int[] eye : new int[][] {{21, 8}, {-1, 8}, {4, 0}, {4, 17}}) {
            Twins.outOfBounds("listed first, ahead of " + eye[0] + " and " + eye[1], Twins::busy, d -> d.eye(2, eye[0], eye[1]));
        }
        Check.same("0", new Dramwright().eye(0, 4, 8), 8);
        Check.same("1", new Dramwright().eye(1, 4, 8), 8);
    }

    static void eyeTakesBeginnings0To20() {
        Check.same("0", new Dramwright().eye(0, 0, 8), 8);
        Check.same("20", new Dramwright().eye(0, 20, 8), 8);
        Twins.illegal("-1", Twins::busy, d -> d.eye(1, -1, 8));
        Twins.illegal("21", Twins::busy, d -> d.eye(1, 21, 8));
        for (int far : Check.FAR) {
            Check.illegal("far " + far, () -> new Dramwright().eye(0, far, 8));
        }
    }

    static void eyeTakesWidths1To16() {
        Check.same("1", new Dramwright().eye(0, 4, 1), 8);
        Check.same("16", new Dramwright().eye(0, 4, 16), 8);
        Twins.illegal("0", Twins::busy, d -> d.eye(1, 4, 0));
        Twins.illegal("17", Twins::busy, d -> d.eye(1, 4, 17));
        for (int far : Check.FAR) {
            Check.illegal("far " + far, () -> new Dramwright().eye(0, 4, far));
        }
    }

    static void eyeBeginsAtFirstAt4AndIs8Wide() {
        for (int rank = 0; rank < 2; rank++) {
            int address = Check.at(rank, 0, 0, 0);
            Dramwright d = new Dramwright();
            d.code('n');
            d.warmth(99);
            d.train(rank);
            d.go(1);
            Check.same("13 to 20", d.delay(rank), 16);
            d.warmth(50);
            Check.same("9 to 16", Check.wordAt(d, address), 0);
            d.warmth(49);
            Check.same("8 to 15", Check.wordAt(d, address), 1);
            Dramwright e = new Dramwright();
            e.code('n');
            e.warmth(49);
            Check.same("8 to 15", Check.wordAt(e, address), 0);
            e.warmth(50);
            Check.same("9 to 16", Check.wordAt(e, address), 1);
        }
    }

    static void eyeIsFromItsBeginningAsManyAsItsWidth() {
        for (int begin = 0; begin <= 20; begin++) {
            for (int width = 1; width <= 16; width++) {
                Dramwright d = new Dramwright();
                d.code('n');
                d.eye(0, begin, width);
                boolean isWithin = 8 >= begin + 2 && 8 <= begin + 2 + width - 1;
                Check.same("8 in " + (begin + 2) + " and " + width, Check.wordAt(d, 0), isWithin ? 0 : 1);
                Check.same("the other rank", Check.wordAt(d, Check.at(1, 0, 0, 0)), 0);
            }
        }
    }

    static void eyeGoesOnByATenthOfTheWarmthRoundedDown() {
        for (int warmth = 0; warmth < 100; warmth++) {
            Dramwright d = new Dramwright();
            d.code('n');
            d.eye(0, 3, 2);
            d.warmth(warmth);
            boolean isWithin = warmth / 10 == 4 || warmth / 10 == 5;
            Check.same("3 and " + warmth + " by 10, 2 wide", Check.wordAt(d, 0), isWithin ? 0 : 1);
        }
    }

    static void outsideTheEyeTheLowestDataBitIsReadTheOtherWayRoundAheadOfTheCode() {
        Dramwright d = new Dramwright();
        Check.finishedWrite(d, 0, 0, 6);
        d.eye(0, 20, 1);
        Check.same("mended", Check.flagAt(d, 0), 'm');
        Check.same("to what was written", Check.wordAt(d, 0), 6);
        d.flip(0, 0, 0, 0, 5);
        Check.same("two bits are wrong", Check.flagAt(d, 0), 'l');
        d.flip(0, 0, 0, 0, 0);
        Check.same("the lowest one is turned and turned again, one is wrong", Check.flagAt(d, 0), 'm');
        d.flip(0, 0, 0, 0, 5);
        Check.same("none is", Check.flagAt(d, 0), 'r');
        Dramwright s = new Dramwright();
        s.code('n');
        s.eye(0, 20, 1);
        s.stick(0, 0, 0, 0, 0, true);
        Check.same("a bit that sticks at 1, too", Check.wordAt(s, 0), 0);
    }

    static void trainSetsTheDelayToTheMidstWithin0To31() {
        for (int begin = 0; begin <= 20; begin++) {
            for (int width = 1; width <= 16; width++) {
                for (int warmth = 9; warmth < 100; warmth += 45) {
                    Dramwright d = new Dramwright();
                    d.eye(1, begin, width);
                    d.warmth(warmth);
                    d.train(1);
                    d.go(1);
                    int first = begin + warmth / 10;
                    int last = first + width - 1;
                    Check.same("midst of " + first + " to " + last, d.delay(1), Math.min(31, (first + last) / 2));
                    Check.same("the other one", d.delay(0), 8);
                }
            }
        }
    }

    static void trainIsNewUntilItsT() {
        Dramwright d = new Dramwright();
        Check.isTrue("new", d.train(0));
        Check.isFalse("told already", d.train(0));
        Check.isTrue("the other one", d.train(1));
        d.go(1);
        Check.same("t", Check.trace(d), "t0@0");
        Check.isTrue("new again", d.train(0));
        Check.isFalse("the other one is still to be trained", d.train(1));
        d.go(1);
        Check.isTrue("now it was", d.train(1));
    }

    static void delayOfARankThatCouldNotBeTrainedInTime() {
        Dramwright d = new Dramwright();
        d.eye(0, 20, 16);
        d.warmth(99);
        Check.same("not trained", d.delay(0), 8);
        d.train(0);
        Check.same("told alone", d.delay(0), 8);
        d.go(1);
        Check.same("36 is above 31", d.delay(0), 31);
        d.code('n');
        Check.same("31 is within 29 to 44", Check.wordAt(d, 0), 0);
    }

    static void faultsCountsFrom0EachReading() {
        Dramwright d = new Dramwright();
        d.stick(1, 2, 31, 0, 0, true);
        Check.same("none", d.faults(1, 2, 31), 0);
        for (int i = 1; i <= 6; i++) {
            Check.flagAt(d, Check.at(1, 2, 31, 0));
            Check.same("each one", d.faults(1, 2, 31), i);
            Check.same("right ones do not count", Check.flagAt(d, Check.at(1, 2, 31, 1)), 'r');
        }
        Check.same("others", d.faults(1, 2, 30) + d.faults(1, 2, 32) + d.faults(1, 3, 31) + d.faults(0, 2, 31), 0);
    }

    static void aRowIsReplacedAtTheThirdFault() {
        Dramwright d = new Dramwright();
        d.policy('s', 1);
        d.stick(0, 0, 8, 0, 0, true);
        int address = Check.at(0, 0, 8, 0);
        Check.flagAt(d, address);
        Check.flagAt(d, address);
        Check.same("2 are too few", d.place(address, 'r') * 10 + d.spares(0, 0), 82);
        Check.flagAt(d, address);
        Check.same("this one counted, 3 are enough", d.place(address, 'r') * 10 + d.spares(0, 0), 321);
        Check.same("the spare row begins at 0", d.faults(0, 0, 32), 0);
        Check.same("the row that was replaced keeps its count", d.faults(0, 0, 8), 3);
    }

    static void aRowWithMoreThanThreeIsReplacedAsSoonAsSpareRowsAreUsed() {
        Dramwright d = new Dramwright();
        d.stick(0, 0, 8, 0, 0, true);
        int address = Check.at(0, 0, 8, 0);
        for (int i = 0; i < 5; i++) {
            Check.flagAt(d, address);
        }
        d.policy('s', 1);
        Check.flagAt(d, address + 1);
        Check.same("a word that is right replaces nothing", d.place(address, 'r'), 8);
        Check.flagAt(d, address);
        Check.same("the sixth does", d.place(address, 'r'), 32);
        d.policy('s', 0);
        d.stick(0, 0, 32, 0, 0, true);
        for (int i = 0; i < 5; i++) {
            Check.flagAt(d, address);
        }
        Check.same("not used any more", d.place(address, 'r') * 10 + d.spares(0, 0), 321);
    }

    static void twoSpareRowsOfEachBankTheFirstOneFirst() {
        Dramwright d = new Dramwright();
        d.policy('s', 1);
        int[] rows = {3, 30, 12};
        int[] due = {32, 33, 12};
        for (int i = 0; i < rows.length; i++) {
            Check.same("left", d.spares(1, 1), 2 - Math.min(2, i));
            d.stick(1, 1, rows[i], 0, 0, true);
            for (int k = 0; k < 4; k++) {
                Check.flagAt(d, Check.at(1, 1, rows[i], 0));
            }
            Check.same("row " + rows[i], d.place(Check.at(1, 1, rows[i], 0), 'r'), due[i]);
        }
        Check.same("none is left", d.spares(1, 1), 0);
        for (int bankAt = 0; bankAt < 8; bankAt++) {
            Check.same("bank " + bankAt, d.spares(bankAt / 4, bankAt % 4), bankAt == 5 ? 0 : 2);
        }
    }

    static void wordsOfAReplacedRowMoveWithTheirFlags() {
        Dramwright d = new Dramwright();
        d.policy('s', 1);
        for (int column = 0; column < 16; column++) {
            d.write(0, Check.at(0, 0, 8, column), 0x100 + column, 15, column == 7);
            d.finish(100);
        }
        d.flip(0, 0, 8, 2, 12);
        d.flip(0, 0, 8, 3, 12);
        d.flip(0, 0, 8, 3, 13);
        d.flip(0, 0, 8, 7, 12);
        d.flip(0, 0, 8, 15, 31);
        for (int i = 0; i < 3; i++) {
            Check.flagAt(d, Check.at(0, 0, 8, 2));
        }
        Check.same("replaced", d.place(Check.at(0, 0, 8, 0), 'r'), 32);
        for (int column = 0; column < 16; column++) {
            int request = Check.finishedRead(d, 0, Check.at(0, 0, 8, column));
            boolean isPoisoned = column == 3 || column == 7;
            int due = column == 3 ? 0x103 ^ 0x3000 : 0x100 + column;
            Check.same("flag of " + column, d.flagOf(request), isPoisoned ? 'p' : 'r');
            Check.same("word of " + column, d.valueOf(request), due);
        }
        Check.same("no faults in the spare row", d.faults(0, 0, 32), 0);
    }
}
