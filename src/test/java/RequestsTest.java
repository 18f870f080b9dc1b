import java.util.NoSuchElementException;

/** The promises 11 to 22. */
final class RequestsTest {
    private RequestsTest() {
    }

    static void promise11Read() {
        Dramwright d = new Dramwright();
        for (int i = 0; i < 8; i++) {
            Check.same("number", d.read(i % 4, i * 16), i);
        }
        Check.badState("8 reads wait", () -> d.read(0, 4095));
        Check.outOfBounds("listed first", () -> d.read(4, 0));
        Check.outOfBounds("-1", () -> d.read(-1, 0));
        Check.outOfBounds("listed first", () -> d.read(0, 4096));
        Check.outOfBounds("-1", () -> d.read(0, -1));
        d.write(0, 0, 1, 15, false);
        Check.badState("even for one that would be forwarded", () -> d.read(0, 0));
        d.finish(300);
        Check.same("the next number", d.read(0, 4095), 9);
    }

    static void promise11PatrolsDoNotCountAmongTheEight() {
        Dramwright d = new Dramwright();
        d.distance('A', 99);
        d.policy('p', 1);
        d.go(2);
        Check.same("the patrol waits", d.queued(false), 1);
        for (int i = 0; i < 8; i++) {
            d.read(0, 100 + i);
        }
        Check.same("all wait", d.queued(false), 9);
        Check.badState("8 reads of masters wait", () -> d.read(0, 4095));
    }

    static void promise11And12FourHundredRequests() {
        Dramwright d = new Dramwright();
        for (int i = 0; i < 400; i += 8) {
            for (int k = i; k < i + 8; k++) {
                int got = k % 2 == 0 ? d.write(0, k, k, 15, false) : d.read(0, k - 1);
                Check.same("number", got, k);
            }
            d.finish(150);
        }
        Check.same("none waits", d.queued(true) + d.queued(false), 0);
        Check.badState("there were 400", () -> d.read(0, 0));
        Check.badState("there were 400", () -> d.write(0, 0, 0, 15, false));
        Check.illegal("listed first", () -> d.write(0, 0, 0, 0, false));
        Check.isTrue("consistent", d.isConsistent());
    }

    static void promise11Forwarding() {
        Dramwright d = new Dramwright();
        d.write(0, 5, 1, 15, false);
        d.write(0, 5, 2, 15, true);
        Check.same("number", d.read(1, 5), 2);
        Check.same("done at once", d.state(2), 'd');
        Check.same("the youngest write's value", d.valueOf(2), 2);
        Check.same("and poison", d.flagOf(2), 'q');
        Check.same("at once", d.doneAt(2), 0L);
        Check.same("it did not wait", d.waited(2), 0);
        d.write(0, 5, 0xFF, 1, false);
        d.read(1, 5);
        Check.same("the youngest has not the whole mask", d.state(4), 'w');
        d.write(0, 5, 9, 15, false);
        d.read(1, 5);
        Check.same("an older read may wait", d.flagOf(6), 'f');
        Check.same("forwarded", d.valueOf(6), 9);
        d.finish(300);
        Check.same("in order, merged and poisoned", d.valueOf(4), 0xFF);
        Check.same("poison stays with a partial write", d.flagOf(4), 'p');
    }

    static void promise12Write() {
        Dramwright d = new Dramwright();
        for (int i = 0; i < 8; i++) {
            Check.same("number", d.write(i % 4, i, i, 15, false), i);
        }
        Check.badState("8 writes wait", () -> d.write(0, 100, 0, 15, false));
        Check.illegal("mask 0, listed first", () -> d.write(0, 100, 0, 0, false));
        Check.illegal("mask 16", () -> d.write(0, 100, 0, 16, false));
        Check.outOfBounds("master, listed first", () -> d.write(4, 100, 0, 0, false));
        Check.outOfBounds("address, listed first", () -> d.write(0, 4096, 0, 16, false));
        Check.outOfBounds("address -1", () -> d.write(0, -1, 0, 15, false));
        Check.outOfBounds("master -1", () -> d.write(-1, 0, 0, 15, false));
        Check.same("reads still come", d.read(0, 100), 8);
        d.finish(300);
        Check.same("and writes again", d.write(0, 0, 1, 15, false), 9);
    }

    static void promise12Masks() {
        Dramwright d = new Dramwright();
        Check.finishedWrite(d, 0, 9, 0x11223344);
        d.write(0, 9, 0xAABBCCDD, 0b0101, false);
        d.finish(100);
        Check.finishedRead(d, 0, 9);
        Check.same("bytes 0 and 2", d.valueOf(2), 0x11BB33DD);
        d.write(0, 9, 0xAABBCCDD, 0b1000, false);
        d.finish(100);
        Check.finishedRead(d, 0, 9);
        Check.same("byte 3", d.valueOf(4), 0xAABB33DD);
        Check.isTrue("consistent", d.isConsistent());
    }

    static void promise12PoisonOfPartialWrites() {
        Dramwright d = new Dramwright();
        d.write(0, 9, 7, 15, true);
        d.finish(100);
        d.write(0, 9, 0, 2, false);
        d.finish(100);
        Check.finishedRead(d, 0, 9);
        Check.same("a poisoned word stays so", d.flagOf(2), 'p');
        Check.finishedWrite(d, 0, 9, 8);
        d.write(0, 9, 1, 1, true);
        d.finish(100);
        Check.finishedRead(d, 0, 9);
        Check.same("a write brings it", d.flagOf(5), 'p');
        Check.finishedWrite(d, 0, 9, 3);
        Check.finishedRead(d, 0, 9);
        Check.same("a whole write takes it away", d.flagOf(7), 'r');
    }

    static void promise12PartialWritesOfLostAndMendedWords() {
        Dramwright d = new Dramwright();
        d.flip(0, 0, 0, 0, 0);
        d.flip(0, 0, 0, 0, 1);
        d.flip(0, 0, 0, 1, 3);
        d.write(0, 0, 0x100, 2, false);
        d.write(0, 1, 0x100, 2, false);
        d.finish(100);
        d.read(0, 0);
        Check.finishedRead(d, 0, 1);
        Check.same("of a lost word it is poisoned", d.flagOf(2), 'p');
        Check.same("as it is read", d.valueOf(2), 0x103);
        Check.same("of a mended word it is right", d.flagOf(3), 'r');
        Check.same("mended", d.valueOf(3), 0x100);
    }

    static void promise13Go() {
        Dramwright d = new Dramwright();
        Check.same("nothing to do", d.go(150), 0);
        Check.same("cycle", d.cycle(), 150L);
        d.read(0, 0);
        Check.same("a", d.go(1), 1);
        Check.same("nothing", d.go(3), 0);
        Check.same("r", d.go(20), 1);
        Check.illegal("0", () -> d.go(0));
        Check.illegal("151", () -> d.go(151));
        Check.illegal("-1", () -> d.go(-1));
        Check.same("cycle", d.cycle(), 174L);
    }

    static void promise14Finish() {
        Dramwright d = new Dramwright();
        Check.same("nothing to do", d.finish(300), 0);
        d.read(0, 0);
        Check.same("at most", d.finish(7), 7);
        Check.same("the cycle in which it is done passes", d.finish(300), 4);
        Check.same("done", d.doneAt(0), 10L);
        Check.same("cycle", d.cycle(), 11L);
        d.map(0, false);
        Check.same("a new map", d.finish(300), 1);
        Check.illegal("0", () -> d.finish(0));
        Check.illegal("301", () -> d.finish(301));
        d.policy('p', 1);
        d.go(1);
        Check.same("patrols are not waited for", d.finish(300), 0);
    }

    static void promise15State() {
        Dramwright d = new Dramwright();
        d.read(0, 0);
        Check.same("waits", d.state(0), 'w');
        d.go(4);
        Check.same("waits", d.state(0), 'w');
        d.go(1);
        Check.same("under way", d.state(0), 'u');
        d.go(5);
        Check.same("under way", d.state(0), 'u');
        d.go(1);
        Check.same("done", d.state(0), 'd');
        Check.outOfBounds("1", () -> d.state(1));
        Check.outOfBounds("-1", () -> d.state(-1));
    }

    static void promise16And17And18NotYet() {
        Dramwright d = new Dramwright();
        int write = d.write(0, 0, 5, 15, false);
        int read = d.read(0, 16);
        Check.thrown("not done", NoSuchElementException.class, () -> d.valueOf(read));
        Check.thrown("not done", NoSuchElementException.class, () -> d.flagOf(read));
        Check.thrown("not done", NoSuchElementException.class, () -> d.doneAt(read));
        Check.thrown("not done", NoSuchElementException.class, () -> d.doneAt(write));
        d.finish(300);
        Check.same("value", d.valueOf(read), 0);
        Check.same("flag", d.flagOf(read), 'r');
        Check.thrown("no read", NoSuchElementException.class, () -> d.valueOf(write));
        Check.thrown("no read", NoSuchElementException.class, () -> d.flagOf(write));
        Check.same("a write is done, too", d.state(write), 'd');
        Check.isTrue("in its cycle", d.doneAt(write) > d.doneAt(read));
        Check.outOfBounds("2", () -> d.valueOf(2));
        Check.outOfBounds("2", () -> d.flagOf(2));
        Check.outOfBounds("2", () -> d.doneAt(2));
        Check.outOfBounds("-1", () -> d.valueOf(-1));
        Check.outOfBounds("-1", () -> d.flagOf(-1));
        Check.outOfBounds("-1", () -> d.doneAt(-1));
    }

    static void promise17Flags() {
        Dramwright d = new Dramwright();
        d.write(0, 0, 5, 15, false);
        Check.same("forwarded", d.flagOf(d.read(0, 0)), 'f');
        d.write(0, 1, 5, 15, true);
        Check.same("with poison", d.flagOf(d.read(0, 1)), 'q');
        d.finish(100);
        d.flip(0, 0, 0, 0, 9);
        d.flip(0, 0, 0, 1, 9);
        d.flip(0, 0, 0, 2, 9);
        d.flip(0, 0, 0, 2, 10);
        for (int column = 0; column < 4; column++) {
            d.read(0, column);
        }
        d.finish(100);
        Check.same("mended", d.flagOf(4), 'm');
        Check.same("poisoned, mended or not", d.flagOf(5), 'p');
        Check.same("lost", d.flagOf(6), 'l');
        Check.same("as it is", d.valueOf(6), 1 << 9 | 1 << 10);
        Check.same("right", d.flagOf(7), 'r');
        Check.same("a poisoned word that was mended counts", d.mended(), 2);
        d.write(0, 2, 5, 1, false);
        d.finish(100);
        d.flip(0, 0, 0, 2, 20);
        d.flip(0, 0, 0, 2, 21);
        Check.finishedRead(d, 0, 2);
        Check.same("lost goes ahead of poisoned", d.flagOf(9), 'l');
    }

    static void promise18DoneAt() {
        Dramwright d = new Dramwright();
        d.go(7);
        Check.finishedWrite(d, 0, 0, 5);
        Check.same("a 4 w 3 data 2", d.doneAt(0), 16L);
        d.write(0, 0, 6, 15, false);
        d.read(0, 0);
        Check.same("forwarded at once, in the cycle that is next", d.doneAt(2), 17L);
    }

    static void promise19Waited() {
        Dramwright d = new Dramwright();
        d.read(0, 0);
        Check.same("0", d.waited(0), 0);
        d.go(3);
        Check.same("3", d.waited(0), 3);
        d.go(100);
        Check.same("not in the cycle of its r", d.waited(0), 4);
        Check.outOfBounds("1", () -> d.waited(1));
        Check.outOfBounds("-1", () -> d.waited(-1));
    }

    static void promise20Queued() {
        Dramwright d = new Dramwright();
        d.read(0, 0);
        d.read(0, 64);
        d.write(0, 1, 1, 15, false);
        Check.same("reads", d.queued(false), 2);
        Check.same("writes", d.queued(true), 1);
        d.policy('p', 1);
        d.go(2);
        d.policy('p', 0);
        Check.same("with the patrol", d.queued(false), 3);
        d.finish(300);
        Check.same("under way is not waiting", d.queued(false) + d.queued(true), 0);
    }

    static void promise21Cycle() {
        Dramwright d = new Dramwright();
        Check.same("0", d.cycle(), 0L);
        d.go(1);
        Check.same("1", d.cycle(), 1L);
        Check.pass(d, 1000);
        Check.same("1001", d.cycle(), 1001L);
    }

    static void promise22IsDraining() {
        Dramwright d = new Dramwright();
        for (int i = 0; i < 6; i++) {
            d.write(0, i, i, 15, false);
        }
        Check.isFalse("not yet looked at", d.isDraining());
        d.go(1);
        Check.isTrue("6 wait", d.isDraining());
        d.finish(300);
        Check.isTrue("until a read waits", d.isDraining());
        d.read(0, 0);
        d.go(1);
        Check.isFalse("a read waits", d.isDraining());
    }

    static void promise22MarksThatCross() {
        Dramwright d = new Dramwright();
        d.policy('u', 1);
        d.policy('l', 7);
        d.write(0, 0, 1, 15, false);
        d.read(0, 1);
        d.go(1);
        Check.isFalse("the beginning is looked at first", d.isDraining());
        d.go(50);
        Check.isTrue("the read was first", d.doneAt(1) < d.doneAt(0));
    }
}
