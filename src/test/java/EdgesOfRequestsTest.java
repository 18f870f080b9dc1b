import java.util.NoSuchElementException;

/** The boundary cases of the promises 11 to 22: each one on both sides, and each refused call in vain. */
final class EdgesOfRequestsTest {
    private EdgesOfRequestsTest() {
    }

    /** 8 reads wait, to 8 words of one row. */
    private static void withEightReads(Dramwright d) {
        for (int i = 0; i < 8; i++) {
            Check.same("the number", d.read(i % 4, i), i);
        }
    }

    /** 8 writes wait, to 8 words of one row. */
    private static void withEightWrites(Dramwright d) {
        for (int i = 0; i < 8; i++) {
            Check.same("the number", d.write(i % 4, i, i, 15, false), i);
        }
    }

    /** 400 requests came and are done. */
    private static void withFourHundred(Dramwright d) {
        for (int i = 0; i < 400; i += 2) {
            Check.same("the number", d.write(i % 4, i % 16, i, 15, false), i);
            Check.same("the number", d.read(i % 4, i % 16), i + 1);
            d.finish(300);
        }
    }

    private static void withNewMap(Dramwright d) {
        d.map(3, true);
    }

    static void readTakesMasters0To3() {
        Dramwright d = new Dramwright();
        for (int master = 0; master < 4; master++) {
            Check.same("number", d.read(master, master), master);
        }
        Twins.outOfBounds("-1", Twins::busy, e -> e.read(-1, 0));
        Twins.outOfBounds("4, the master of patrols", Twins::busy, e -> e.read(4, 0));
        for (int far : Check.FAR) {
            Check.outOfBounds("far " + far, () -> d.read(far, 0));
        }
        Check.same("no number was lost", d.read(0, 9), 4);
    }

    static void readTakesTheAddresses0To4095() {
        Dramwright d = new Dramwright();
        d.read(0, 0);
        d.read(0, 4095);
        Twins.outOfBounds("-1", Twins::busy, e -> e.read(0, -1));
        Twins.outOfBounds("4096", Twins::busy, e -> e.read(0, 4096));
        for (int far : Check.FAR) {
            Check.outOfBounds("far " + far, () -> d.read(0, far));
        }
        d.finish(300);
        Check.same("the first word", Check.trace(d), "a00:0@0 a13:31@1 r00:0@4 r13:15@7");
    }

    static void readIsRefusedWhile8ReadsOfMastersWait() {
        Dramwright d = new Dramwright();
        withEightReads(d);
        Check.badState("8 wait", () -> d.read(0, 100));
        Twins.badState("8 wait", EdgesOfRequestsTest::withEightReads, e -> e.read(0, 100));
        d.go(4);
        Check.badState("8 wait still", () -> d.read(0, 100));
        d.go(1);
        Check.same("one is under way, 7 wait", d.queued(false), 7);
        Check.same("the ninth", d.read(0, 100), 8);
        Check.badState("8 wait again", () -> d.read(0, 100));
    }

    static void readIsTakenWhile7ReadsAndAPatrolWait() {
        Dramwright d = new Dramwright();
        d.distance('A', 50);
        d.policy('p', 1);
        d.go(2);
        for (int i = 0; i < 7; i++) {
            d.read(0, 200 + i);
        }
        Check.same("8 wait, one is a patrol's", d.queued(false), 8);
        Check.same("taken", d.read(0, 300), 7);
        Check.badState("8 reads of masters wait", () -> d.read(0, 301));
    }

    static void readIsTakenWhile8WritesWait() {
        Dramwright d = new Dramwright();
        withEightWrites(d);
        Check.same("reads have their own eight", d.read(0, 100), 8);
    }

    static void aForwardedReadDoesNotWait() {
        Dramwright d = new Dramwright();
        d.write(0, 0, 5, 15, false);
        for (int i = 1; i < 20; i++) {
            Check.same("each is done at once", d.state(d.read(0, 0)), 'd');
        }
        Check.same("none waits", d.queued(false), 0);
    }

    static void readIsRefusedWhileANewMapWaits() {
        Twins.badState("none else waits", EdgesOfRequestsTest::withNewMap, e -> e.read(0, 0));
        Twins.badState("others wait", Twins::busyWithNewMap, e -> e.read(0, 0));
        Dramwright d = new Dramwright();
        d.read(0, 0);
        d.map(1, false);
        for (int cycle = 0; cycle < 11; cycle++) {
            Check.badState("cycle " + cycle, () -> d.read(0, 0));
            d.go(1);
        }
        Check.same("it has come, though nothing is issued yet", d.read(0, 0), 1);
    }

    static void readAndWriteAreTakenUpTo400Requests() {
        Dramwright d = new Dramwright();
        withFourHundred(d);
        Check.same("the last number", d.state(399), 'd');
        Check.outOfBounds("none behind it", () -> d.state(400));
        Twins.badState("the 401st, a read", EdgesOfRequestsTest::withFourHundred, e -> e.read(0, 0));
        Twins.badState("the 401st, a write", EdgesOfRequestsTest::withFourHundred, e -> e.write(0, 0, 1, 15, false));
    }

    static void refusedCallsAndPatrolsAreNotAmongThe400() {
        Dramwright d = new Dramwright();
        d.policy('p', 1);
        d.go(150);
        d.policy('p', 0);
        d.finish(1);
        d.go(20);
        Check.isTrue("patrols were done", d.patrolled() > 10);
        for (int i = 0; i < 50; i++) {
            Check.outOfBounds("refused", () -> d.read(4, 0));
            Check.illegal("refused", () -> d.write(0, 0, 0, 16, false));
        }
        withFourHundred(d);
        Check.badState("400", () -> d.read(0, 0));
    }

    static void readThrowsTheExceptionListedFirst() {
        Twins.outOfBounds("no such master, 8 wait", EdgesOfRequestsTest::withEightReads, e -> e.read(4, 0));
        Twins.outOfBounds("no such address, 8 wait", EdgesOfRequestsTest::withEightReads, e -> e.read(0, 4096));
        Twins.outOfBounds("no such master, 400", EdgesOfRequestsTest::withFourHundred, e -> e.read(-1, 0));
        Twins.outOfBounds("no such address, a new map", EdgesOfRequestsTest::withNewMap, e -> e.read(0, -1));
    }

    static void writeTakesMasters0To3() {
        Dramwright d = new Dramwright();
        for (int master = 0; master < 4; master++) {
            Check.same("number", d.write(master, master, 1, 15, false), master);
        }
        Twins.outOfBounds("-1", Twins::busy, e -> e.write(-1, 0, 1, 15, false));
        Twins.outOfBounds("4, the master of patrols", Twins::busy, e -> e.write(4, 0, 1, 15, false));
        for (int far : Check.FAR) {
            Check.outOfBounds("far " + far, () -> d.write(far, 0, 1, 15, false));
        }
    }

    static void writeTakesTheAddresses0To4095() {
        Dramwright d = new Dramwright();
        d.write(0, 0, 11, 15, false);
        Check.finishedWrite(d, 0, 4095, 22);
        int first = d.read(0, 0);
        int last = Check.finishedRead(d, 0, 4095);
        Check.same("both", d.valueOf(first) * 100 + d.valueOf(last), 1122);
        Twins.outOfBounds("-1", Twins::busy, e -> e.write(0, -1, 1, 15, false));
        Twins.outOfBounds("4096", Twins::busy, e -> e.write(0, 4096, 1, 15, false));
        for (int far : Check.FAR) {
            Check.outOfBounds("far " + far, () -> d.write(0, far, 1, 15, false));
        }
    }

    static void writeTakesMasks1To15() {
        for (int mask = 1; mask <= 15; mask++) {
            Dramwright d = new Dramwright();
            Check.finishedWrite(d, 0, 7, 0x11223344);
            Check.same("taken", d.write(0, 7, 0xAABBCCDD, mask, false), 1);
            d.finish(100);
            int read = Check.finishedRead(d, 0, 7);
            int due = (mask & 1) == 1 ? 0xDD : 0x44;
            due |= ((mask & 2) == 2 ? 0xCC : 0x33) << 8;
            due |= ((mask & 4) == 4 ? 0xBB : 0x22) << 16;
            due |= ((mask & 8) == 8 ? 0xAA : 0x11) << 24;
            Check.same("the bytes of the mask " + mask, d.valueOf(read), due);
        }
        Twins.illegal("0", Twins::busy, e -> e.write(0, 0, 1, 0, false));
        Twins.illegal("16", Twins::busy, e -> e.write(0, 0, 1, 16, false));
        Twins.illegal("-1", Twins::busy, e -> e.write(0, 0, 1, -1, true));
        for (int far : Check.FAR) {
            Check.illegal("far " + far, () -> new Dramwright().write(0, 0, 1, far, false));
        }
    }

    static void writeTakesAnyValue() {
        int[] values = {0, 1, -1, Integer.MIN_VALUE, Integer.MAX_VALUE};
        for (int value : values) {
            for (char code : "nsc".toCharArray()) {
                Dramwright d = new Dramwright();
                d.code(code);
                Check.finishedWrite(d, 0, 7, value);
                int read = Check.finishedRead(d, 0, 7);
                Check.same("value by " + code, d.valueOf(read), value);
                Check.same("flag by " + code, d.flagOf(read), 'r');
            }
        }
    }

    static void writeIsRefusedWhile8WritesWait() {
        Dramwright d = new Dramwright();
        withEightWrites(d);
        Check.badState("8 wait", () -> d.write(0, 100, 1, 15, false));
        Check.badState("8 wait, for the same address, too", () -> d.write(0, 0, 1, 15, false));
        Twins.badState("8 wait", EdgesOfRequestsTest::withEightWrites, e -> e.write(0, 100, 1, 15, false));
        d.go(4);
        Check.badState("8 wait still", () -> d.write(0, 100, 1, 15, false));
        d.go(1);
        Check.same("one is under way, 7 wait", d.queued(true), 7);
        Check.same("the ninth", d.write(0, 100, 1, 15, false), 8);
        Check.badState("8 wait again", () -> d.write(0, 100, 1, 15, false));
    }

    static void writeIsTakenWhile8ReadsWait() {
        Dramwright d = new Dramwright();
        withEightReads(d);
        Check.same("writes have their own eight", d.write(0, 100, 1, 15, false), 8);
    }

    static void writeIsRefusedWhileANewMapWaits() {
        Twins.badState("none else waits", EdgesOfRequestsTest::withNewMap, e -> e.write(0, 0, 1, 15, false));
        Twins.badState("others wait", Twins::busyWithNewMap, e -> e.write(0, 0, 1, 15, true));
        Dramwright d = new Dramwright();
        withNewMap(d);
        d.go(1);
        Check.same("it has come", d.write(0, 0, 1, 15, false), 0);
    }

    static void writeThrowsTheExceptionListedFirst() {
        Twins.outOfBounds("master, mask, 8 wait", EdgesOfRequestsTest::withEightWrites, e -> e.write(4, 0, 1, 0, false));
        Twins.outOfBounds("address, mask, 8 wait", EdgesOfRequestsTest::withEightWrites, e -> e.write(0, -1, 1, 16, false));
        Twins.illegal("mask, 8 wait", EdgesOfRequestsTest::withEightWrites, e -> e.write(0, 0, 1, 0, false));
        Twins.illegal("mask, a new map", EdgesOfRequestsTest::withNewMap, e -> e.write(0, 0, 1, 16, false));
        Twins.illegal("mask, 400", EdgesOfRequestsTest::withFourHundred, e -> e.write(0, 0, 1, 16, false));
        Twins.outOfBounds("address, 400", EdgesOfRequestsTest::withFourHundred, e -> e.write(0, 4096, 1, 15, false));
    }

    static void aRefusedWriteBringsNoPoison() {
        Twins.badState("nothing is said to be changed", EdgesOfRequestsTest::withEightWrites, e -> e.write(0, 0, 9, 15, true));
        Dramwright d = new Dramwright();
        Check.finishedWrite(d, 0, 0, 3);
        Check.illegal("refused", () -> d.write(0, 0, 9, 0, true));
        int read = Check.finishedRead(d, 0, 0);
        Check.same("value", d.valueOf(read), 3);
        Check.same("flag", d.flagOf(read), 'r');
        Check.isTrue("the plain word is the one before", d.isConsistent());
    }

    static void goTakes1To150() {
        Dramwright d = new Dramwright();
        d.go(1);
        Check.same("1", d.cycle(), 1L);
        d.go(150);
        Check.same("150", d.cycle(), 151L);
        Twins.illegal("0", Twins::busy, e -> e.go(0));
        Twins.illegal("151", Twins::busy, e -> e.go(151));
        Twins.illegal("-1", Twins::busy, e -> e.go(-1));
        for (int far : Check.FAR) {
            Check.illegal("far " + far, () -> d.go(far));
        }
        Check.same("no cycle passed", d.cycle(), 151L);
    }

    static void goTellsTheCommandsOfItsOwnCycles() {
        Dramwright d = new Dramwright();
        d.read(0, 0);
        Check.same("the first one", d.go(1), 1);
        Check.same("none", d.go(3), 0);
        Check.same("the second one", d.go(1), 1);
        Check.same("none is left", d.go(150), 0);
        Check.same("two in all", d.commands(), 2);
    }

    static void finishTakes1To300() {
        Dramwright d = new Dramwright();
        d.distance('A', 99);
        for (int i = 0; i < 4; i++) {
            d.read(0, Check.at(0, 0, i, 0));
        }
        Check.same("1", d.finish(1), 1);
        Check.same("300", d.finish(300), 300);
        Check.same("cycle", d.cycle(), 301L);
        Twins.illegal("0", Twins::busy, e -> e.finish(0));
        Twins.illegal("301", Twins::busy, e -> e.finish(301));
        Twins.illegal("-1", Twins::busy, e -> e.finish(-1));
        for (int far : Check.FAR) {
            Check.illegal("far " + far, () -> d.finish(far));
        }
        Check.same("no cycle passed", d.cycle(), 301L);
        Dramwright e = new Dramwright();
        Check.illegal("even if nothing is to be waited for", () -> e.finish(0));
    }

    static void finishPassesAsFewCyclesAsNeeded() {
        Dramwright d = new Dramwright();
        Check.same("nothing is to be waited for", d.finish(1) + d.finish(300), 0);
        d.read(0, 0);
        Check.same("done as the cycle 10 begins, so that one passes, too", d.finish(300), 11);
        Check.same("done", d.doneAt(0), 10L);
        d.read(0, 1);
        Check.same("r at 11, done at 17", d.finish(7), 7);
        Check.same("done", d.state(1), 'd');
        d.read(0, 2);
        Check.same("one cycle too few", d.finish(6), 6);
        Check.same("under way", d.state(2), 'u');
        Check.same("the last one", d.finish(300), 1);
    }

    static void finishWaitsForANewMapAndItsPatrol() {
        Dramwright d = new Dramwright();
        d.map(1, false);
        Check.same("a cycle", d.finish(300), 1);
        Dramwright p = new Dramwright();
        p.policy('p', 2);
        p.go(3);
        Check.same("a patrol alone is not waited for", p.finish(300), 0);
        p.map(1, false);
        Check.same("but a map is that waits for it", p.finish(300), 10);
        Check.same("the patrol is done", p.patrolled(), 1);
        Check.same("the map has come", p.place(1, 'b'), 1);
    }

    static void requestsAreNumberedFrom0() {
        for (int request : new int[] {-1, 3, Integer.MIN_VALUE, Integer.MAX_VALUE}) {
            Twins.State state = d -> {
                d.write(0, 0, 1, 15, false);
                d.read(0, 1);
                d.read(0, 0);
            };
            Twins.outOfBounds("state " + request, state, d -> d.state(request));
            Twins.outOfBounds("valueOf " + request, state, d -> d.valueOf(request));
            Twins.outOfBounds("flagOf " + request, state, d -> d.flagOf(request));
            Twins.outOfBounds("doneAt " + request, state, d -> d.doneAt(request));
            Twins.outOfBounds("waited " + request, state, d -> d.waited(request));
        }
        Dramwright d = new Dramwright();
        Check.outOfBounds("none at first", () -> d.state(0));
        Check.outOfBounds("none at first", () -> d.valueOf(0));
        Check.outOfBounds("none at first", () -> d.flagOf(0));
        Check.outOfBounds("none at first", () -> d.doneAt(0));
        Check.outOfBounds("none at first", () -> d.waited(0));
        d.policy('p', 1);
        d.go(30);
        Check.outOfBounds("patrols have no number", () -> d.state(0));
    }

    static void stateIsOfTheCycleThatPassed() {
        Dramwright d = new Dramwright();
        d.read(0, 0);
        StringBuilder states = new StringBuilder();
        for (int cycle = 0; cycle < 12; cycle++) {
            states.append(d.state(0));
            d.go(1);
        }
        Check.same("r at 4, done as 10 begins", states.toString(), "wwwwwuuuuuud");
        d.write(0, 1, 1, 15, false);
        states.setLength(0);
        for (int cycle = 0; cycle < 8; cycle++) {
            states.append(d.state(1));
            d.go(1);
        }
        Check.same("w at 12, done as 17 begins", states.toString(), "wuuuuudd");
        Check.same("done", d.doneAt(1), 17L);
    }

    private static void readTwice(Dramwright d) {
        d.write(0, 16, 1, 15, false);
        d.read(0, 0);
    }

    static void valueAndFlagAreOfReadsThatAreDone() {
        Twins.refused("it waits", NoSuchElementException.class, EdgesOfRequestsTest::readTwice, d -> d.valueOf(1));
        Twins.refused("it waits", NoSuchElementException.class, EdgesOfRequestsTest::readTwice, d -> d.flagOf(1));
        Twins.refused("no read", NoSuchElementException.class, EdgesOfRequestsTest::readTwice, d -> d.valueOf(0));
        Twins.refused("no read", NoSuchElementException.class, EdgesOfRequestsTest::readTwice, d -> d.flagOf(0));
        Dramwright d = new Dramwright();
        d.read(0, 0);
        for (int cycle = 0; cycle <= 10; cycle++) {
            Check.thrown("cycle " + cycle, NoSuchElementException.class, () -> d.valueOf(0));
            Check.thrown("cycle " + cycle, NoSuchElementException.class, () -> d.flagOf(0));
            Check.thrown("cycle " + cycle, NoSuchElementException.class, () -> d.doneAt(0));
            d.go(1);
        }
        Check.same("done", d.valueOf(0), 0);
        Check.same("done", d.flagOf(0), 'r');
        Check.same("done", d.doneAt(0), 10L);
    }

    static void doneAtIsOfWritesToo() {
        Dramwright d = new Dramwright();
        d.write(0, 0, 1, 15, false);
        for (int cycle = 0; cycle <= 9; cycle++) {
            Check.thrown("cycle " + cycle, NoSuchElementException.class, () -> d.doneAt(0));
            d.go(1);
        }
        Check.same("w at 4, data from 7 on", d.doneAt(0), 9L);
        Check.thrown("a write that is done is no read", NoSuchElementException.class, () -> d.valueOf(0));
        Check.thrown("a write that is done is no read", NoSuchElementException.class, () -> d.flagOf(0));
    }

    static void doneAtCountsTheCyclesOfData() {
        for (int data : new int[] {1, 2, 99}) {
            Dramwright d = new Dramwright();
            d.distance('N', data);
            Check.finishedRead(d, 0, 0);
            Check.same("N " + data, d.doneAt(0), 8L + data);
            Dramwright w = new Dramwright();
            w.distance('N', data);
            Check.finishedWrite(w, 0, 0, 1);
            Check.same("N " + data, w.doneAt(0), 7L + data);
        }
    }

    static void waitedCountsTheCyclesUntilItsOwn() {
        Dramwright d = new Dramwright();
        d.read(0, 0);
        for (int cycle = 0; cycle < 4; cycle++) {
            Check.same("behind each cycle", d.waited(0), cycle);
            d.go(1);
        }
        Check.same("till 3", d.waited(0), 4);
        d.go(1);
        Check.same("not in the cycle 4, in which it is issued", d.waited(0), 4);
        d.finish(300);
        Check.same("nor under way", d.waited(0), 4);
        d.read(0, 1);
        d.go(1);
        Check.same("none at all", d.waited(1), 0);
        d.write(0, 5, 1, 15, false);
        Check.same("nor a forwarded one", d.waited(d.read(0, 5)), 0);
    }

    static void queuedFromNoneToAll() {
        Dramwright d = new Dramwright();
        Check.same("no reads", d.queued(false), 0);
        Check.same("no writes", d.queued(true), 0);
        d.policy('p', 1);
        d.distance('A', 99);
        d.go(2);
        for (int i = 0; i < 8; i++) {
            Check.same("reads and a patrol", d.queued(false), 1 + i);
            Check.same("writes", d.queued(true), i);
            d.read(0, 100 + i);
            d.write(0, 200 + i, 1, 15, false);
        }
        Check.same("8 reads and a patrol", d.queued(false), 9);
        Check.same("8 writes", d.queued(true), 8);
        d.policy('p', 0);
        Check.pass(d, 3000);
        Check.same("none", d.queued(false) + d.queued(true), 0);
    }

    static void cycleIsTheOneThatIsNext() {
        Dramwright d = new Dramwright();
        Check.same("0 at first", d.cycle(), 0L);
        d.read(0, 0);
        Check.same("bringing takes none", d.cycle(), 0L);
        d.go(1);
        Check.same("the a was in the cycle 0", d.command(0, 'c'), 0);
        Check.same("1 is next", d.cycle(), 1L);
        Check.pass(d, 150 * 512);
        Check.same("far on", d.cycle(), 1L + 150 * 512);
    }

    static void isDrainingIsAsTheLastCycleLeftIt() {
        Dramwright d = new Dramwright();
        d.policy('u', 1);
        d.policy('l', 0);
        d.write(0, 0, 1, 15, false);
        Check.isFalse("no cycle has looked at it", d.isDraining());
        d.go(1);
        Check.isTrue("one has", d.isDraining());
        d.go(4);
        Check.same("the write was issued", d.queued(true), 0);
        Check.isTrue("no read waits", d.isDraining());
        d.read(0, 64);
        Check.isTrue("not looked at yet", d.isDraining());
        d.go(1);
        Check.isFalse("0 wait, and a read", d.isDraining());
    }
}
