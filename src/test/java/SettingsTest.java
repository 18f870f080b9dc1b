/** The promises 1 to 10. */
final class SettingsTest {
    private SettingsTest() {
    }

    static void promise1NewObject() {
        Dramwright d = new Dramwright();
        Check.same("cycle", d.cycle(), 0L);
        Check.same("rows", d.rows('o'), 'o');
        Check.same("code", d.code('s'), 's');
        Check.isFalse("slow", d.slow(false));
        Check.same("warmth", d.warmth(20), 20);
        for (int master = 0; master < 4; master++) {
            Check.same("master", d.master(master, 0, 1), 1);
        }
        Check.same("place", d.place(0xFFF, 'r'), 31);
        Check.same("mixes not", d.place(1 << 7, 'b'), 0);
        Check.same("rests after", d.policy('r', 0), 0);
        Check.same("patrol", d.policy('p', 0), 0);
        Check.same("by banks", d.policy('g', 0), 0);
        Check.same("drawn ahead", d.policy('a', 0), 0);
        Check.same("spares used", d.policy('s', 0), 0);
        for (int rank = 0; rank < 2; rank++) {
            Check.same("owed", d.owed(rank), 0);
            Check.isFalse("rests", d.rests(rank));
            Check.same("delay", d.delay(rank), 8);
            for (int bank = 0; bank < 4; bank++) {
                Check.same("open", d.openRow(rank, bank), -1);
                Check.same("learned", d.learned(rank, bank), 2);
                Check.same("spares", d.spares(rank, bank), 2);
                Check.same("opened", d.opened(rank, bank, 33), 0);
                Check.same("faults", d.faults(rank, bank, 33), 0);
            }
        }
        Check.same("queued", d.queued(true) + d.queued(false) + d.guarded() + d.commands() + d.judged(), 0);
        Check.same("counts", d.mended() + d.lost() + d.patrolled() + d.energy() + Check.allWaits(d), 0L);
        Check.isFalse("drains", d.isDraining());
        Check.isTrue("lawful", d.isLawful());
        Check.isTrue("consistent", d.isConsistent());
    }

    static void promise2DistanceReturnsTheOneBefore() {
        int[] first = {4, 4, 9, 2, 3, 12, 2, 3, 5, 4, 3, 4, 3, 2, 20, 10, 1, 3, 4};
        Dramwright d = new Dramwright();
        for (int i = 0; i < first.length; i++) {
            char which = (char) ('A' + i);
            Check.same("first " + which, d.distance(which, 1), first[i]);
            int most = which == 'Q' ? 9 : 99;
            Check.same("before " + which, d.distance(which, most), 1);
            Check.same("most " + which, d.distance(which, most), most);
        }
        Check.same("no gap", d.distance('Q', 0), 9);
    }

    static void promise2DistanceHolds() {
        Dramwright d = new Dramwright();
        d.distance('A', 10);
        d.distance('L', 7);
        d.distance('N', 5);
        Check.finishedRead(d, 0, 0);
        Check.same("trace", Check.trace(d), "a00:0@0 r00:0@10");
        Check.same("done", d.doneAt(0), 22L);
    }

    static void promise2DistanceThrows() {
        Dramwright d = new Dramwright();
        Check.illegal("before A", () -> d.distance('@', 5));
        Check.illegal("behind S", () -> d.distance('T', 5));
        Check.illegal("small letter", () -> d.distance('a', 5));
        Check.illegal("0", () -> d.distance('A', 0));
        Check.illegal("100", () -> d.distance('S', 100));
        Check.illegal("Q 10", () -> d.distance('Q', 10));
        Check.illegal("Q -1", () -> d.distance('Q', -1));
        Check.same("judging is no issuing", d.judge('a', 0, 0, 1), '-');
        d.distance('A', 4);
        d.read(0, 0);
        d.distance('A', 5);
        d.go(1);
        Check.badState("issued", () -> d.distance('A', 4));
        Check.illegal("listed first", () -> d.distance('A', 0));
        Check.illegal("listed first", () -> d.distance('T', 1));
    }

    static void promise3PolicyReturnsTheOneBefore() {
        String letters = "ulbihrpgas";
        int[] first = {6, 2, 150, 200, 30, 0, 0, 0, 0, 0};
        int[] least = {1, 0, 10, 50, 2, 0, 0, 0, 0, 0};
        int[] most = {8, 7, 999, 2000, 200, 500, 500, 1, 1, 1};
        Dramwright d = new Dramwright();
        for (int i = 0; i < first.length; i++) {
            char which = letters.charAt(i);
            int low = least[i];
            int high = most[i];
            Check.same("first " + which, d.policy(which, low), first[i]);
            Check.same("least " + which, d.policy(which, high), low);
            Check.illegal("below " + which, () -> d.policy(which, low - 1));
            Check.illegal("above " + which, () -> d.policy(which, high + 1));
            Check.same("most " + which, d.policy(which, first[i]), high);
        }
        Check.illegal("no such thing", () -> d.policy('x', 1));
        Check.illegal("capital", () -> d.policy('U', 6));
    }

    static void promise4Rows() {
        Dramwright d = new Dramwright();
        Check.same("before", d.rows('c'), 'o');
        Check.same("before", d.rows('l'), 'c');
        Check.same("before", d.rows('o'), 'l');
        Check.illegal("no such policy", () -> d.rows('x'));
        Check.illegal("capital", () -> d.rows('O'));
        Check.same("unchanged", d.rows('o'), 'o');
    }

    static void promise5Master() {
        Dramwright d = new Dramwright();
        Check.same("first", d.master(3, 3, 9), 1);
        Check.same("before", d.master(3, 0, 1), 39);
        Check.outOfBounds("-1", () -> d.master(-1, 0, 1));
        Check.outOfBounds("4", () -> d.master(4, 0, 1));
        Check.outOfBounds("listed first", () -> d.master(4, 9, 0));
        Check.illegal("priority -1", () -> d.master(0, -1, 1));
        Check.illegal("priority 4", () -> d.master(0, 4, 1));
        Check.illegal("share 0", () -> d.master(0, 0, 0));
        Check.illegal("share 10", () -> d.master(0, 0, 10));
        Check.same("unchanged", d.master(0, 0, 1), 1);
    }

    static void promise6MapWaitsAndMoves() {
        Dramwright d = new Dramwright();
        d.write(0, 1, 77, 15, false);
        d.write(0, Check.at(0, 0, 3, 1), 88, 15, false);
        Check.same("waiting", d.map(1, false), 2);
        Check.same("the map before still holds", d.place(1, 'c'), 1);
        Check.badState("a new map waits", () -> d.map(2, false));
        Check.illegal("listed first", () -> d.map(4, false));
        Check.badState("no reads", () -> d.read(0, 1));
        Check.badState("no writes", () -> d.write(0, 1, 1, 15, false));
        int passed = d.finish(300);
        Check.same("the new map holds", d.place(1, 'b'), 1);
        Check.same("moved as the last one is done", d.doneAt(1) + 1, (long) passed);
        d.read(0, 1);
        d.read(0, Check.at(0, 0, 3, 1));
        int before = d.commands();
        d.finish(300);
        Check.same("words moved", d.valueOf(2), 77);
        Check.same("words moved", d.valueOf(3), 88);
        Check.same("50 cycles from that one on nothing is issued",
            (long) d.command(before, 'c'), (long) passed - 1 + 50);
        Check.isTrue("consistent", d.isConsistent());
    }

    static void promise6MapThrowsAndCountsUnderWay() {
        Dramwright d = new Dramwright();
        Check.illegal("-1", () -> d.map(-1, false));
        Check.illegal("4", () -> d.map(4, true));
        d.read(0, 0);
        d.read(0, 5);
        d.go(5);
        Check.same("one under way, one waits", "" + d.state(0) + d.state(1), "uw");
        Check.same("both count", d.map(0, true), 2);
    }

    static void promise6PatrolsWaitForTheMap() {
        Dramwright d = new Dramwright();
        d.policy('p', 1);
        d.go(2);
        Check.same("the patrol's request counts", d.map(1, false), 1);
        d.finish(300);
        Check.same("none came", d.patrolled(), 1);
    }

    static void promise7Place() {
        Dramwright d = new Dramwright();
        int address = 0b101101110011;
        placeIs(d, address, 0b1, 0b11, 0b10110, 0b0011);
        moveTo(d, 1, false);
        placeIs(d, address, 0b1, 0b11, 0b10110, 0b1100);
        moveTo(d, 2, false);
        placeIs(d, address, 0b1, 0b01, 0b10111, 0b0011);
        moveTo(d, 3, false);
        placeIs(d, address, 0b1, 0b01, 0b10110, 0b1110);
        moveTo(d, 3, true);
        placeIs(d, address, 0b1, 0b01 ^ 0b10, 0b10110, 0b1110);
        moveTo(d, 0, true);
        placeIs(d, address, 0b1, 0b11 ^ 0b10, 0b10110, 0b0011);
        placeIs(d, 4095, 1, 3 ^ 3, 31, 15);
    }

    static void promise7PlaceOfEachBit() {
        String[] parts = {"ccccbbkrrrrr", "bbcccckrrrrr", "ccccrrrrrbbk", "kbbccccrrrrr"};
        for (int map = 0; map < 4; map++) {
            Dramwright d = new Dramwright();
            moveTo(d, map, false);
            placeIs(d, 0, 0, 0, 0, 0);
            for (int bit = 0; bit < 12; bit++) {
                char part = parts[map].charAt(bit);
                int value = 1 << bit - parts[map].indexOf(part);
                for (char other : "kbrc".toCharArray()) {
                    Check.same("map " + map + " bit " + bit, d.place(1 << bit, other), other == part ? value : 0);
                }
            }
        }
    }

    private static void moveTo(Dramwright d, int map, boolean mixes) {
        d.map(map, mixes);
        Check.same("a cycle is enough", d.finish(10), 1);
    }

    private static void placeIs(Dramwright d, int address, int rank, int bank, int row, int column) {
        Check.same("rank", d.place(address, 'k'), rank);
        Check.same("bank", d.place(address, 'b'), bank);
        Check.same("row", d.place(address, 'r'), row);
        Check.same("column", d.place(address, 'c'), column);
    }

    static void promise7PlaceThrows() {
        Dramwright d = new Dramwright();
        Check.outOfBounds("-1", () -> d.place(-1, 'k'));
        Check.outOfBounds("4096", () -> d.place(4096, 'k'));
        Check.outOfBounds("listed first", () -> d.place(4096, 'x'));
        Check.illegal("no such thing", () -> d.place(0, 'x'));
    }

    static void promise8Code() {
        Dramwright d = new Dramwright();
        Check.same("before", d.code('c'), 's');
        Check.same("before", d.code('n'), 'c');
        Check.same("before", d.code('s'), 'n');
        Check.illegal("no such code", () -> d.code('x'));
        d.read(0, 0);
        Check.badState("a request waits", () -> d.code('c'));
        Check.illegal("listed first", () -> d.code('x'));
        d.go(6);
        Check.same("under way", d.state(0), 'u');
        Check.badState("under way", () -> d.code('c'));
        d.finish(50);
        Check.same("done", d.code('c'), 's');
    }

    static void promise8CodeMakesCodesAnew() {
        Dramwright d = new Dramwright();
        Check.finishedWrite(d, 0, 0, 0x12345678);
        d.code('c');
        Check.finishedRead(d, 0, 0);
        Check.same("right by the new code", d.flagOf(1), 'r');
        Check.same("the word", d.valueOf(1), 0x12345678);
        d.flip(0, 0, 0, 0, 4);
        d.flip(0, 0, 0, 0, 7);
        Check.finishedRead(d, 0, 0);
        Check.same("a whole chip is mended", d.flagOf(2), 'm');
        Check.same("the word", d.valueOf(2), 0x12345678);
        d.code('n');
        d.flip(0, 0, 0, 0, 0);
        Check.finishedRead(d, 0, 0);
        Check.same("without a code it is right", d.flagOf(3), 'r');
    }

    static void promise9Slow() {
        Dramwright d = new Dramwright();
        Check.isFalse("before", d.slow(true));
        Check.isTrue("before", d.slow(true));
        d.read(0, 0);
        Check.badState("a request waits", () -> d.slow(false));
        d.go(3);
        Check.badState("under way", () -> d.slow(false));
        d.finish(50);
        Check.same("A and L count half, N does not", d.doneAt(0), 6L);
        Check.badState("a bank is open", () -> d.slow(false));
        d.rows('c');
        d.go(10);
        Check.isTrue("before", d.slow(false));
        Check.isTrue("lawful", d.isLawful());
    }

    static void promise9SlowRoundsUp() {
        Dramwright d = new Dramwright();
        d.slow(true);
        d.read(0, Check.at(0, 0, 0, 0));
        Check.finishedRead(d, 0, Check.at(0, 1, 0, 0));
        Check.same("A 4 counts 2", Check.trace(d), "a00:0@0 r00:0@2 a01:0@3 r01:0@5");
        Check.same("judged by it, too", d.judge('a', 0, 0, 1), '-');
        Check.same("judged by it, too", d.judge('a', 0, 1, 1), 'E');
        Check.same("judged by it, too", d.judge('a', 0, 1, 2), '-');
    }

    static void promise10Warmth() {
        Dramwright d = new Dramwright();
        Check.same("before", d.warmth(0), 20);
        Check.same("before", d.warmth(99), 0);
        Check.illegal("-1", () -> d.warmth(-1));
        Check.illegal("100", () -> d.warmth(100));
        Check.same("unchanged", d.warmth(49), 99);
        Check.finishedRead(d, 0, 0);
        Check.same("at 49 the eye begins at 8", d.flagOf(0), 'r');
        d.warmth(50);
        Check.finishedRead(d, 0, 0);
        Check.same("at 50 it begins at 9", d.flagOf(1), 'm');
        Check.same("mended", d.valueOf(1), 0);
    }

    static void promise6AMapMayMixNoMore() {
        Dramwright d = new Dramwright();
        int address = Check.at(0, 0, 3, 0);
        moveTo(d, 0, true);
        Check.same("3 with the row 3", d.place(address, 'b'), 3);
        moveTo(d, 0, false);
        Check.same("0 again", d.place(address, 'b'), 0);
    }
}
