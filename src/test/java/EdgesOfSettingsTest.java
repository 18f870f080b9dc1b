/** The boundary cases of the promises 1 to 10: each one on both sides, and each refused call in vain. */
final class EdgesOfSettingsTest {
    private EdgesOfSettingsTest() {
    }

    /** Every letter but those that are named is refused. */
    private static void onlyLetters(String what, String taken, Twins.State state, LetterCall call) {
        for (int letter = 0; letter < 256; letter++) {
            char sign = (char) letter;
            if (taken.indexOf(sign) < 0) {
                Dramwright d = new Dramwright();
                state.bring(d);
                Check.illegal(what + " " + letter, () -> call.make(d, sign));
            }
        }
        for (char sign : new char[] {0, '@', '?', 0xFF, 0x161, 0xFFFF}) {
            Twins.illegal(what + " " + (int) sign, state, d -> call.make(d, sign));
        }
    }

    /** A call with a letter. */
    private interface LetterCall {
        void make(Dramwright d, char letter);
    }

    static void distanceTakesAToS() {
        onlyLetters("distance", "ABCDEFGHIJKLMNOPQRS", Twins::fresh, (d, letter) -> d.distance(letter, 5));
    }

    static void distanceTakes1To99() {
        for (char which = 'A'; which <= 'S'; which++) {
            char letter = which;
            if (which == 'Q') {
                continue;
            }
            Dramwright d = new Dramwright();
            d.distance(which, 1);
            Check.same(which + " 1 is taken", d.distance(which, 99), 1);
            Check.same(which + " 99 is taken", d.distance(which, 2), 99);
            Check.illegal(which + " 0", () -> d.distance(letter, 0));
            Check.illegal(which + " 100", () -> d.distance(letter, 100));
            for (int far : Check.FAR) {
                Check.illegal(which + " " + far, () -> d.distance(letter, far));
            }
            Check.same(which + " stayed", d.distance(which, 5), 2);
        }
        Twins.illegal("0", Twins::fresh, d -> d.distance('A', 0));
        Twins.illegal("100", Twins::fresh, d -> d.distance('S', 100));
    }

    static void distanceTakesForQ0To9() {
        Dramwright d = new Dramwright();
        d.distance('Q', 0);
        Check.same("0 is taken", d.distance('Q', 9), 0);
        Check.same("9 is taken", d.distance('Q', 1), 9);
        Twins.illegal("-1", Twins::fresh, e -> e.distance('Q', -1));
        Twins.illegal("10", Twins::fresh, e -> e.distance('Q', 10));
        Twins.illegal("99", Twins::fresh, e -> e.distance('Q', 99));
        for (int far : Check.FAR) {
            Check.illegal("far " + far, () -> d.distance('Q', far));
        }
    }

    static void distanceIsTakenUntilACommandWasIssued() {
        Dramwright d = new Dramwright();
        Check.pass(d, 300);
        d.read(0, 0);
        d.judge('a', 0, 0, 1);
        Check.same("cycles, requests and judging are no commands", d.distance('C', 10), 9);
        d.go(1);
        Check.same("one was issued", d.commands(), 1);
        for (char which = 'A'; which <= 'S'; which++) {
            char letter = which;
            Check.badState("behind it " + which, () -> d.distance(letter, 5));
        }
        Twins.badState("behind a command", Twins::busy, e -> e.distance('C', 9));
    }

    static void distanceThrowsTheExceptionListedFirst() {
        Twins.illegal("no such distance, behind a command", Twins::busy, d -> d.distance('T', 5));
        Twins.illegal("out of range, behind a command", Twins::busy, d -> d.distance('A', 100));
        Twins.illegal("Q 10, behind a command", Twins::busy, d -> d.distance('Q', 10));
    }

    static void policyTakesItsLettersAlone() {
        onlyLetters("policy", "ulbihrpgas", Twins::fresh, (d, letter) -> d.policy(letter, 1));
        Twins.illegal("in the midst of things", Twins::busy, d -> d.policy('x', 1));
    }

    private static void policyTakes(char which, int first, int least, int most) {
        Dramwright d = new Dramwright();
        Check.same(which + " at first", d.policy(which, least), first);
        Check.same(which + " takes its least", d.policy(which, most), least);
        Check.same(which + " takes its most", d.policy(which, first), most);
        Twins.illegal(which + " below", Twins::fresh, e -> e.policy(which, least - 1));
        Twins.illegal(which + " above", Twins::fresh, e -> e.policy(which, most + 1));
        Twins.illegal(which + " below, in the midst of things", Twins::busy, e -> e.policy(which, least - 1));
        Twins.illegal(which + " above, in the midst of things", Twins::busy, e -> e.policy(which, most + 1));
        for (int far : Check.FAR) {
            Check.illegal(which + " " + far, () -> d.policy(which, far));
        }
        Check.same(which + " stayed", d.policy(which, first), first);
    }

    static void policyUpperMark1To8() {
        policyTakes('u', 6, 1, 8);
    }

    static void policyLowerMark0To7() {
        policyTakes('l', 2, 0, 7);
    }

    static void policyBound10To999() {
        policyTakes('b', 150, 10, 999);
    }

    static void policyInterval50To2000() {
        policyTakes('i', 200, 50, 2000);
    }

    static void policyLimit2To200() {
        policyTakes('h', 30, 2, 200);
    }

    static void policyRest0To500() {
        policyTakes('r', 0, 0, 500);
    }

    static void policyPatrol0To500() {
        policyTakes('p', 0, 0, 500);
    }

    static void policySwitches0And1() {
        policyTakes('g', 0, 0, 1);
        policyTakes('a', 0, 0, 1);
        policyTakes('s', 0, 0, 1);
    }

    static void rowsTakesOCAndL() {
        onlyLetters("rows", "ocl", Twins::fresh, (d, letter) -> d.rows(letter));
        Twins.illegal("in the midst of things", Twins::busy, d -> d.rows('m'));
        Dramwright d = new Dramwright();
        for (char before : "ocl".toCharArray()) {
            d.rows(before);
            for (char next : "ocl".toCharArray()) {
                Check.same("before", d.rows(next), before);
                d.rows(before);
            }
        }
    }

    static void masterTakesMasters0To3() {
        for (int master = 0; master < 4; master++) {
            Check.same("at first", new Dramwright().master(master, 3, 9), 1);
        }
        Twins.outOfBounds("-1", Twins::busy, d -> d.master(-1, 0, 1));
        Twins.outOfBounds("4, the master of patrols", Twins::busy, d -> d.master(4, 0, 1));
        for (int far : Check.FAR) {
            Check.outOfBounds("far " + far, () -> new Dramwright().master(far, 0, 1));
        }
    }

    static void masterTakesPriorities0To3() {
        Dramwright d = new Dramwright();
        d.master(2, 0, 4);
        Check.same("0 is taken", d.master(2, 3, 4), 4);
        Check.same("3 is taken", d.master(2, 1, 4), 34);
        Twins.illegal("-1", Twins::busy, e -> e.master(2, -1, 4));
        Twins.illegal("4", Twins::busy, e -> e.master(2, 4, 4));
        for (int far : Check.FAR) {
            Check.illegal("far " + far, () -> d.master(2, far, 4));
        }
        Check.same("it stayed", d.master(2, 0, 1), 14);
    }

    static void masterTakesShares1To9() {
        Dramwright d = new Dramwright();
        d.master(3, 2, 1);
        Check.same("1 is taken", d.master(3, 2, 9), 21);
        Check.same("9 is taken", d.master(3, 2, 5), 29);
        Twins.illegal("0", Twins::busy, e -> e.master(3, 2, 0));
        Twins.illegal("10", Twins::busy, e -> e.master(3, 2, 10));
        for (int far : Check.FAR) {
            Check.illegal("far " + far, () -> d.master(3, 2, far));
        }
        Check.same("it stayed", d.master(3, 0, 1), 25);
    }

    static void masterThrowsTheExceptionListedFirst() {
        Twins.outOfBounds("no such master, ahead of the priority", Twins::busy, d -> d.master(4, 4, 1));
        Twins.outOfBounds("no such master, ahead of the share", Twins::busy, d -> d.master(-1, 0, 0));
        Twins.illegal("one number fits, the other does not", Twins::busy, d -> d.master(0, 3, 10));
    }

    static void mapTakes0To3() {
        for (int map = 0; map < 4; map++) {
            Check.same("no request waits", new Dramwright().map(map, map % 2 == 0), 0);
        }
        Twins.illegal("-1", Twins::busy, d -> d.map(-1, false));
        Twins.illegal("4", Twins::busy, d -> d.map(4, true));
        for (int far : Check.FAR) {
            Check.illegal("far " + far, () -> new Dramwright().map(far, false));
        }
    }

    static void mapIsRefusedAsLongAsANewOneWaits() {
        Dramwright d = new Dramwright();
        d.read(0, 0);
        d.map(1, false);
        Check.badState("at once", () -> d.map(1, false));
        d.go(10);
        Check.badState("behind the last cycle in which it waits", () -> d.map(2, false));
        d.go(1);
        Check.same("the cycle in which the read is done is enough", d.map(2, false), 0);
        Check.same("no request holds it up", d.go(1), 0);
        Check.same("another one", d.map(3, false), 0);
        Twins.badState("with all else", Twins::busyWithNewMap, e -> e.map(2, true));
        Twins.badState("another one", Twins::busyWithNewMap, e -> e.map(0, false));
    }

    static void mapThrowsTheExceptionListedFirst() {
        Twins.illegal("no such map, and a new one waits", Twins::busyWithNewMap, d -> d.map(4, true));
        Twins.illegal("no such map, and a new one waits", Twins::busyWithNewMap, d -> d.map(-1, true));
    }

    static void mapTellsHowManyRequestsFromNoneToAll() {
        Dramwright d = new Dramwright();
        Check.same("none", d.map(0, false), 0);
        d.go(1);
        Dramwright e = new Dramwright();
        e.distance('L', 99);
        e.policy('p', 1);
        for (int i = 0; i < 8; i++) {
            e.read(0, Check.at(0, 0, 0, i));
        }
        e.go(5);
        e.read(0, Check.at(0, 0, 1, 0));
        for (int i = 0; i < 8; i++) {
            e.write(0, Check.at(1, 0, 0, i), 1, 15, false);
        }
        Check.same("8 reads and a patrol wait", e.queued(false), 9);
        Check.same("8 writes wait", e.queued(true), 8);
        Check.same("one is under way", e.state(0), 'u');
        Check.same("all count", e.map(0, false), 18);
    }

    static void placeTakesTheAddresses0To4095() {
        Dramwright d = new Dramwright();
        Check.same("the first one", d.place(0, 'r') + d.place(0, 'c') + d.place(0, 'b') + d.place(0, 'k'), 0);
        Check.same("the last one", d.place(4095, 'r') * 100 + d.place(4095, 'c'), 3115);
        Twins.outOfBounds("-1", Twins::busy, e -> e.place(-1, 'k'));
        Twins.outOfBounds("4096", Twins::busy, e -> e.place(4096, 'k'));
        for (int far : Check.FAR) {
            Check.outOfBounds("far " + far, () -> d.place(far, 'r'));
        }
    }

    static void placeTakesKBRAndC() {
        onlyLetters("place", "kbrc", Twins::fresh, (d, letter) -> d.place(4095, letter));
        Twins.illegal("in the midst of things", Twins::busy, d -> d.place(0, 't'));
    }

    static void placeThrowsTheExceptionListedFirst() {
        Twins.outOfBounds("no such address, no such thing", Twins::busy, d -> d.place(4096, 'x'));
        Twins.outOfBounds("no such address, no such thing", Twins::busy, d -> d.place(-1, 'x'));
    }

    static void placeTellsASpareRowIfItWasReplaced() {
        Dramwright d = new Dramwright();
        d.policy('s', 1);
        d.stick(1, 3, 31, 0, 0, true);
        int address = Check.at(1, 3, 31, 0);
        for (int i = 0; i < 2; i++) {
            Check.finishedRead(d, 0, address);
        }
        Check.same("two were mended", d.place(address, 'r'), 31);
        Check.finishedRead(d, 0, address);
        Check.same("three were", d.place(address, 'r'), 32);
        for (int column = 0; column < 16; column++) {
            Check.same("the whole row", d.place(address + column, 'r'), 32);
            Check.same("in its column", d.place(address + column, 'c'), column);
            Check.same("in its bank", d.place(address + column, 'b') + 10 * d.place(address + column, 'k'), 13);
        }
        Check.same("no other row", d.place(Check.at(1, 3, 30, 0), 'r'), 30);
        d.map(2, true);
        d.finish(10);
        int found = 0;
        for (int other = 0; other < 4096; other++) {
            if (d.place(other, 'r') == 32) {
                Check.same("the same bank by the new map", d.place(other, 'b') + 10 * d.place(other, 'k'), 13);
                found++;
            }
            Check.isTrue("no address is in the row that was replaced", d.place(other, 'r') != 31
                || d.place(other, 'b') != 3 || d.place(other, 'k') != 1);
        }
        Check.same("one row of addresses", found, 16);
    }

    static void codeTakesNSAndC() {
        onlyLetters("code", "nsc", Twins::fresh, (d, letter) -> d.code(letter));
        Dramwright d = new Dramwright();
        for (char before : "nsc".toCharArray()) {
            d.code(before);
            for (char next : "nsc".toCharArray()) {
                Check.same("before", d.code(next), before);
                d.code(before);
            }
        }
    }

    static void codeIsRefusedWhileARequestWaitsOrIsUnderWay() {
        Dramwright d = new Dramwright();
        d.go(3);
        d.read(0, 0);
        for (int cycle = 0; cycle < 11; cycle++) {
            Check.isTrue("not done", d.state(0) != 'd');
            Check.badState("in the state " + d.state(0), () -> d.code('c'));
            d.go(1);
        }
        Check.same("done", d.state(0), 'd');
        Check.same("taken then, though the row is open", d.code('c'), 's');
        Twins.badState("with all else", Twins::busy, e -> e.code('n'));
        Twins.badState("even the code that holds", Twins::busy, e -> e.code('s'));
    }

    static void codeIsRefusedWhileAPatrolWaitsOrIsUnderWay() {
        Dramwright d = new Dramwright();
        d.policy('p', 100);
        d.go(100);
        d.go(1);
        d.policy('p', 0);
        for (int cycle = 0; cycle < 10; cycle++) {
            Check.badState("cycle " + cycle, () -> d.code('c'));
            d.go(1);
        }
        Check.same("the patrol is done", d.patrolled(), 1);
        Check.same("taken", d.code('c'), 's');
    }

    static void codeThrowsTheExceptionListedFirst() {
        Twins.illegal("no such code, and a request waits", Twins::busy, d -> d.code('x'));
        Twins.illegal("no such code, and a request waits", Twins::busy, d -> d.code('S'));
    }

    static void codeIsTakenWhileANewMapWaitsAlone() {
        Dramwright d = new Dramwright();
        d.map(1, false);
        Check.same("a new map is no request", d.code('c'), 's');
    }

    static void slowIsRefusedWhileARequestWaitsOrIsUnderWay() {
        Dramwright d = new Dramwright();
        d.rows('c');
        d.read(0, 0);
        for (int cycle = 0; cycle < 11; cycle++) {
            Check.badState("in the state " + d.state(0), () -> d.slow(true));
            d.go(1);
        }
        Check.same("the read is done", d.state(0), 'd');
        Check.same("and the row was shut", d.openRow(0, 0), -1);
        Check.isFalse("taken", d.slow(true));
        Twins.badState("with all else", Twins::busy, e -> e.slow(true));
        Twins.badState("even the clock that holds", Twins::busy, e -> e.slow(false));
    }

    static void slowIsRefusedWhileABankIsOpen() {
        for (int bankAt = 0; bankAt < 8; bankAt++) {
            Dramwright d = new Dramwright();
            Check.finishedRead(d, 0, Check.at(bankAt / 4, bankAt % 4, 1, 0));
            Check.badState("the bank " + bankAt + " is open", () -> d.slow(true));
            d.rows('c');
            d.go(1);
            Check.isFalse("it was shut in this cycle", d.slow(true));
        }
        Twins.badState("a bank is open", d -> {
            Check.finishedRead(d, 0, 0);
        }, d -> d.slow(true));
    }

    static void slowIsRefusedWhileAPatrolWaits() {
        Dramwright d = new Dramwright();
        d.policy('p', 1);
        d.distance('B', 99);
        d.go(1);
        Check.isFalse("none came yet", d.slow(false));
        d.train(0);
        d.go(1);
        Check.same("a patrol waits", d.queued(false), 1);
        Check.badState("so it is refused", () -> d.slow(true));
    }

    static void warmthTakes0To99() {
        Dramwright d = new Dramwright();
        Check.same("at first", d.warmth(0), 20);
        Check.same("0 is taken", d.warmth(99), 0);
        Check.same("99 is taken", d.warmth(7), 99);
        Twins.illegal("-1", Twins::busy, e -> e.warmth(-1));
        Twins.illegal("100", Twins::busy, e -> e.warmth(100));
        for (int far : Check.FAR) {
            Check.illegal("far " + far, () -> d.warmth(far));
        }
        Check.same("it stayed", d.warmth(20), 7);
    }
}
