/** The boundary cases of the Terms "Chips" and "Addresses", and of new maps. */
final class EdgesOfPlacesTest {
    private EdgesOfPlacesTest() {
    }

    /** A new object with a map that has come. */
    private static Dramwright with(int map, boolean mixes) {
        Dramwright d = new Dramwright();
        d.map(map, mixes);
        Check.same("one cycle", d.finish(300), 1);
        return d;
    }

    private static int placed(Dramwright d, int address) {
        return ((d.place(address, 'k') * 4 + d.place(address, 'b')) * 32 + d.place(address, 'r')) * 16
            + d.place(address, 'c');
    }

    static void atFirstAllAre0WithTheCodeOf0() {
        int[] rows = {0, 31, 32, 33};
        for (char code : "sc".toCharArray()) {
            Dramwright d = new Dramwright();
            d.code(code);
            for (int bankAt = 0; bankAt < 8; bankAt++) {
                for (int row : rows) {
                    for (int column = 0; column < 16; column += 15) {
                        for (int bit = 0; bit < 40; bit++) {
                            Check.same("was 0", d.flip(bankAt / 4, bankAt % 4, row, column, bit), 1);
                        }
                    }
                }
            }
        }
        Dramwright d = new Dramwright();
        d.read(0, 0);
        Check.finishedRead(d, 0, 4095);
        Check.same("read as 0, right", "" + d.flagOf(0) + d.flagOf(1) + (d.valueOf(0) | d.valueOf(1)), "rr0");
    }

    static void banks0And1AreTheGroup0And2And3TheGroup1() {
        for (int one = 0; one < 4; one++) {
            for (int other = 0; other < 4; other++) {
                if (one == other) {
                    continue;
                }
                boolean isSameGroup = one / 2 == other / 2;
                Dramwright d = new Dramwright();
                d.judge('a', 1, one, 1);
                Check.same("a " + one + other, d.judge('a', 1, other, 2), isSameGroup ? 'E' : '-');
                d.judged();
                d.judge('a', 1, one, 1);
                d.judge('a', 1, other, 3);
                d.judge('r', 1, one, 5);
                Check.same("r " + one + other, d.judge('r', 1, other, 2), isSameGroup ? 'H' : '-');
            }
        }
    }

    static void eachMapPlacesEachAddressAlone() {
        for (int map = 0; map < 4; map++) {
            for (int mixes = 0; mixes < 2; mixes++) {
                Dramwright d = with(map, mixes == 1);
                boolean[] isTaken = new boolean[4096];
                for (int address = 0; address < 4096; address++) {
                    int place = placed(d, address);
                    Check.isFalse("map " + map + " puts two at " + place, isTaken[place]);
                    isTaken[place] = true;
                }
            }
        }
    }

    /** Takes as many of the lowest bits off, and answers them with what is left. */
    private static int[] part(int address, int bits) {
        return new int[] {address & (1 << bits) - 1, address >> bits};
    }

    static void eachMapPartsTheBitsFromTheLowestOneOn() {
        String[] orders = {"cbkr", "bckr", "crbk", "kbcr"};
        for (int map = 0; map < 4; map++) {
            for (int mixes = 0; mixes < 2; mixes++) {
                Dramwright d = with(map, mixes == 1);
                for (int address = 0; address < 4096; address++) {
                    int left = address;
                    int[] values = new int[128];
                    for (char what : orders[map].toCharArray()) {
                        int[] parted = part(left, what == 'c' ? 4 : what == 'b' ? 2 : what == 'k' ? 1 : 5);
                        values[what] = parted[0];
                        left = parted[1];
                    }
                    if (mixes == 1) {
                        values['b'] ^= values['r'] & 3;
                    }
                    for (char what : "kbrc".toCharArray()) {
                        Check.same("map " + map + " address " + address, d.place(address, what), values[what]);
                    }
                }
            }
        }
    }

    static void mixingTakesTheLowestTwoBitsOfTheRowAlone() {
        Dramwright d = with(0, true);
        for (int row = 0; row < 32; row++) {
            for (int bank = 0; bank < 4; bank++) {
                int address = Check.at(0, bank, row, 0);
                Check.same("row " + row + " bank " + bank, d.place(address, 'b'), bank ^ row % 4);
                Check.same("the row stays", d.place(address, 'r'), row);
            }
        }
    }

    static void aNewMapWaitsTillNoRequestIsWaitingOrUnderWay() {
        Dramwright d = new Dramwright();
        d.read(0, 1);
        d.map(1, false);
        for (int cycle = 0; cycle <= 10; cycle++) {
            Check.same("the map before holds, cycle " + cycle, d.place(1, 'c'), 1);
            d.go(1);
        }
        Check.same("the read is done as the cycle 10 begins, and the map comes", d.place(1, 'b'), 1);
        d.read(0, 1);
        d.go(49);
        Check.same("nothing is issued till 59", d.commands(), 2);
        d.go(1);
        Check.same("a at 60", Check.trace(d, 2), "a01:0@60");
    }

    static void aNewMapWithoutRequestsComesAsTheNextCycleBegins() {
        Dramwright d = new Dramwright();
        d.go(7);
        d.map(3, true);
        Check.same("not at once", d.place(1, 'c'), 1);
        d.go(1);
        Check.same("the cycle 7 began", d.place(1, 'k'), 1);
        d.read(0, 1);
        d.go(49);
        Check.same("50 cycles from the cycle 7 on", d.commands(), 0);
        d.go(1);
        Check.same("a at 57", Check.trace(d), "a10:0@57");
    }

    static void anotherNewMapBeginsTheFiftyCyclesAnew() {
        Dramwright d = new Dramwright();
        d.map(1, false);
        d.go(1);
        d.go(30);
        d.map(0, false);
        d.go(1);
        d.read(0, 0);
        Check.pass(d, 100);
        Check.same("50 cycles from 31 on", d.command(0, 'c'), 81);
    }

    static void noCommandAtAllIsIssuedInTheFiftyCycles() {
        Dramwright d = new Dramwright();
        d.policy('i', 50);
        Check.pass(d, 395);
        d.train(0);
        d.train(1);
        d.map(1, false);
        d.go(1);
        Check.same("not the t of this cycle", d.commands(), 0);
        d.policy('r', 1);
        d.policy('a', 1);
        d.rows('c');
        d.go(49);
        Check.same("no f, though 32 are owed", d.commands() * 100 + d.owed(0), 32);
        Check.same("the last one of them passed", d.cycle(), 445L);
        d.go(1);
        Check.same("f in the next one", Check.trace(d), "f0@445");
    }

    static void aRankThatRestsIsNotWokenInTheFiftyCycles() {
        Dramwright d = new Dramwright();
        d.policy('r', 1);
        d.go(10);
        Check.isTrue("both rest", d.rests(0) && d.rests(1));
        d.map(1, false);
        d.train(0);
        d.go(50);
        Check.same("the cycles 10 to 59", Check.trace(d), "d0@1 d1@2");
        d.go(1);
        Check.same("x behind them", Check.trace(d, 2), "x0@60");
    }

    static void noPatrolComesTillANewMapHasCome() {
        Dramwright d = new Dramwright();
        d.policy('p', 5);
        d.read(0, 64);
        d.map(1, false);
        for (int cycle = 0; cycle < 10; cycle++) {
            d.go(1);
            Check.same("the cycle " + cycle + " brought none", d.queued(false), cycle < 4 ? 1 : 0);
        }
        d.go(1);
        Check.same("the map came as 10 began, and a patrol with it", d.queued(false), 1);
        d.go(45);
        Check.same("the one at 15 and all others did not, for one waits", d.queued(false), 1);
    }

    static void wordsAreMovedAsTheyAreRead() {
        int address = Check.at(1, 3, 31, 15);
        for (int map = 0; map < 4; map++) {
            Dramwright d = new Dramwright();
            d.write(0, 0, 0x100, 15, false);
            d.write(0, 1, 0x101, 15, true);
            d.write(0, 2, 0x102, 15, false);
            Check.finishedWrite(d, 0, address, 0x103);
            d.flip(0, 0, 0, 0, 17);
            d.flip(0, 0, 0, 2, 17);
            d.flip(0, 0, 0, 2, 18);
            d.map(map, true);
            d.finish(300);
            int[] at = {0, 1, 2, address};
            int[] words = {0x100, 0x101, 0x102 ^ 3 << 17, 0x103};
            String flags = "rppr";
            for (int i = 0; i < 4; i++) {
                int read = Check.finishedRead(d, 0, at[i]);
                Check.same("word " + i + " by the map " + map, d.valueOf(read), words[i]);
                Check.same("flag " + i + " by the map " + map, d.flagOf(read), flags.charAt(i));
            }
            Check.same("moving is not counted", d.mended() + d.lost(), 0);
        }
    }

    static void eachWordIsMovedWithEachMap() {
        Dramwright d = new Dramwright();
        int[] addresses = new int[48];
        for (int i = 0; i < addresses.length; i++) {
            addresses[i] = i * 87 % 4096;
            Check.finishedWrite(d, 0, addresses[i], 1000 + i);
        }
        for (int map = 3; map >= 0; map--) {
            d.map(map, map % 2 == 1);
            d.finish(300);
            for (int i = 0; i < addresses.length; i++) {
                int read = Check.finishedRead(d, i % 4, addresses[i]);
                Check.same("word " + i + " by the map " + map, d.valueOf(read), 1000 + i);
            }
        }
        Check.isTrue("consistent", d.isConsistent());
    }

    static void aReplacedRowIsMeantByItsSpareRowAsWordsAreMoved() {
        Dramwright d = new Dramwright();
        d.policy('s', 1);
        int address = Check.at(0, 0, 4, 0);
        Check.finishedWrite(d, 0, address, 44);
        d.stick(0, 0, 4, 1, 0, true);
        for (int i = 0; i < 3; i++) {
            Check.finishedRead(d, 0, address + 1);
        }
        Check.same("replaced", d.place(address, 'r'), 32);
        d.map(1, false);
        d.finish(300);
        int read = Check.finishedRead(d, 0, address);
        Check.same("moved out of the spare row", d.valueOf(read), 44);
        d.map(0, false);
        d.finish(300);
        Check.same("the same spare row again", d.place(address, 'r'), 32);
        read = Check.finishedRead(d, 0, address);
        Check.same("and back into it", d.valueOf(read), 44);
    }
}
