/** The codes s and c, looked at from outside: by turning bits and reading. */
final class CodesTest {
    private static final int[] PLACES = new int[32];

    static {
        int bit = 0;
        for (int place = 1; place <= 38; place++) {
            if (Integer.bitCount(place) > 1) {
                PLACES[bit++] = place;
            }
        }
    }

    private CodesTest() {
    }

    private static Dramwright with(char code, int word) {
        Dramwright d = new Dramwright();
        d.code(code);
        Check.finishedWrite(d, 0, 0, word);
        return d;
    }

    private static String readOf(Dramwright d) {
        int request = Check.finishedRead(d, 0, 0);
        return d.flagOf(request) + Integer.toHexString(d.valueOf(request));
    }

    /** Reads a stored bit by turning it twice. */
    private static int stored(Dramwright d, int bit) {
        d.flip(0, 0, 0, 0, bit);
        return d.flip(0, 0, 0, 0, bit);
    }

    static void codeSIsStoredAsTold() {
        int[] words = {0, 1, -1, 0x80000000, 0x12345678, 0xDEADBEEF};
        for (int word : words) {
            Dramwright d = with('s', word);
            int all = Integer.bitCount(word);
            for (int k = 0; k < 6; k++) {
                int due = 0;
                for (int bit = 0; bit < 32; bit++) {
                    due ^= (PLACES[bit] >> k & 1) & word >>> bit & 1;
                }
                Check.same("code bit " + k, stored(d, 32 + k), due);
                all += due;
            }
            Check.same("code bit 6", stored(d, 38), all & 1);
            Check.same("no bit 7", stored(d, 39), 0);
            Check.same("right", readOf(d), "r" + Integer.toHexString(word));
        }
    }

    static void codeSMendsEachBit() {
        Dramwright d = with('s', 0xCAFE1234);
        for (int bit = 0; bit < 39; bit++) {
            d.flip(0, 0, 0, 0, bit);
            Check.same("bit " + bit, readOf(d), "mcafe1234");
            d.flip(0, 0, 0, 0, bit);
        }
    }

    static void codeSTellsTwoBits() {
        for (int first = 0; first < 39; first += 5) {
            Dramwright d = with('s', 0);
            d.flip(0, 0, 0, 0, first);
            for (int second = 0; second < 39; second++) {
                if (second != first) {
                    d.flip(0, 0, 0, 0, second);
                    Check.same("bits " + first + " " + second, readOf(d).charAt(0), 'l');
                    d.flip(0, 0, 0, 0, second);
                }
            }
        }
    }

    static void codeSIsLostAbove38() {
        Dramwright d = with('s', 0);
        d.flip(0, 0, 0, 0, 32);
        d.flip(0, 0, 0, 0, 33);
        d.flip(0, 0, 0, 0, 34);
        d.flip(0, 0, 0, 0, 37);
        Check.same("four bits of the code: even", readOf(d), "l0");
        d.flip(0, 0, 0, 0, 38);
        Check.same("odd, but 39 is above 38", readOf(d), "l0");
        d.flip(0, 0, 0, 0, 32);
        d.flip(0, 0, 0, 0, 38);
        Check.same("odd, 38: the last data bit", readOf(d), "m80000000");
    }

    private static int twice(int digit) {
        return digit < 8 ? digit * 2 : digit * 2 % 16 ^ 3;
    }

    static void codeCIsStoredAsTold() {
        int[] words = {0, 1, -1, 0x80000000, 0x12345678, 0xDEADBEEF};
        for (int word : words) {
            Dramwright d = with('c', word);
            int lower = 0;
            int upper = 0;
            for (int k = 0; k < 8; k++) {
                int digit = word >>> 4 * k & 15;
                lower ^= digit;
                for (int i = 0; i < k; i++) {
                    digit = twice(digit);
                }
                upper ^= digit;
            }
            for (int i = 0; i < 8; i++) {
                Check.same("code bit " + i, stored(d, 32 + i), (upper << 4 | lower) >> i & 1);
            }
            Check.same("right", readOf(d), "r" + Integer.toHexString(word));
        }
    }

    static void codeCMendsEachChip() {
        Dramwright d = with('c', 0xCAFE1234);
        for (int chip = 0; chip < 10; chip++) {
            for (int change = 1; change < 16; change += 2) {
                turn(d, chip, change);
                Check.same("chip " + chip + " by " + change, readOf(d), "mcafe1234");
                turn(d, chip, change);
            }
        }
    }

    private static void turn(Dramwright d, int chip, int change) {
        for (int i = 0; i < 4; i++) {
            if ((change >> i & 1) == 1) {
                d.flip(0, 0, 0, 0, 4 * chip + i);
            }
        }
    }

    static void codeCIsLostIfNoChipFits() {
        Dramwright d = with('c', 0);
        turn(d, 8, 1);
        turn(d, 9, 1);
        Check.same("u 1, v 1: the chip 0", readOf(d), "m1");
        turn(d, 9, 1);
        turn(d, 9, 11);
        Check.same("u 1, v 1 doubled 7 times: the chip 7", readOf(d), "m10000000");
        turn(d, 9, 11);
        turn(d, 9, 9);
        Check.same("u 1, v 1 doubled 14 times: no chip", readOf(d), "l0");
        turn(d, 9, 9);
        turn(d, 9, 5);
        Check.same("u 1, v 1 doubled 8 times: no chip", readOf(d), "l0");
    }

    static void codeNReadsAsItIs() {
        Dramwright d = with('n', 0x55);
        d.flip(0, 0, 0, 0, 1);
        Check.same("as it is", readOf(d), "r57");
        d.flip(0, 0, 0, 0, 35);
        Check.same("no code", readOf(d), "r57");
        for (int bit = 0; bit < 8; bit++) {
            Check.same("none is made", stored(d, 32 + bit), bit == 3 ? 1 : 0);
        }
        Check.same("none mended", d.mended() + d.lost(), 0);
    }

    static void movedWordsAreMadeAnew() {
        Dramwright d = with('s', 0x77);
        d.flip(0, 0, 0, 0, 0);
        d.flip(0, 0, 5, 0, 1);
        d.flip(0, 0, 5, 0, 2);
        d.map(0, false);
        d.finish(10);
        Check.same("mended as it was moved", readOf(d), "r77");
        int request = Check.finishedRead(d, 0, Check.at(0, 0, 5, 0));
        Check.same("a lost one is poisoned", d.flagOf(request), 'p');
        Check.same("as it was read", d.valueOf(request), 6);
        Check.same("moving is no reading", d.mended() + d.lost() + d.faults(0, 0, 5), 0);
    }
}
