/** The boundary cases of the Terms "Requests" and "Order", each one on both sides. */
final class EdgesOfOrderTest {
    private EdgesOfOrderTest() {
    }

    private static int command(Dramwright d, int index, char what) {
        return d.command(index, what);
    }

    static void aReadIsForwardedIfTheYoungestWriteHasTheWholeMask() {
        for (int mask = 1; mask <= 15; mask++) {
            Dramwright d = new Dramwright();
            d.write(0, 9, 0x11111111, 15, false);
            d.write(0, 9, 0x22222222, mask, false);
            int read = d.read(0, 9);
            Check.same("mask " + mask, d.state(read), mask == 15 ? 'd' : 'w');
            d.write(0, 9, 0x33333333, 15, false);
            int next = d.read(0, 9);
            Check.same("behind a younger whole one", d.valueOf(next), 0x33333333);
        }
    }

    static void aReadIsForwardedAsLongAsTheWriteWaits() {
        Dramwright d = new Dramwright();
        d.write(0, 9, 5, 15, false);
        d.go(4);
        Check.same("w is the next command", d.state(0), 'w');
        Check.same("forwarded", d.flagOf(d.read(0, 9)), 'f');
        d.go(1);
        Check.same("under way", d.state(0), 'u');
        int read = d.read(0, 9);
        Check.same("no write waits any more", d.state(read), 'w');
        d.finish(100);
        Check.same("read from the word", d.flagOf(read), 'r');
        Check.same("as it was written", d.valueOf(read), 5);
    }

    static void aReadIsForwardedForItsAddressAlone() {
        Dramwright d = new Dramwright();
        d.write(0, 9, 5, 15, false);
        for (int other : new int[] {8, 10, 9 + 16, 9 + 64, 9 + 128}) {
            Check.same("another address", d.state(d.read(0, other)), 'w');
        }
        Check.same("of another master", d.state(d.read(3, 9)), 'd');
    }

    static void aForwardedReadHasTheValueAndThePoison() {
        Dramwright d = new Dramwright();
        d.write(0, 9, -7, 15, true);
        int read = d.read(0, 9);
        Check.same("value and flag", d.valueOf(read) + "" + d.flagOf(read), "-7q");
        d.write(0, 9, 8, 15, false);
        read = d.read(0, 9);
        Check.same("value and flag", d.valueOf(read) + "" + d.flagOf(read), "8f");
        d.go(3);
        read = d.read(0, 9);
        Check.same("at once", d.doneAt(read), 3L);
    }

    static void aRequestBehindAnOlderOneForItsAddressIsNotLookedAt() {
        Dramwright d = new Dramwright();
        d.policy('b', 10);
        d.distance('A', 30);
        d.read(0, 9);
        d.write(0, 9, 5, 15, false);
        d.go(30);
        Check.same("not even an urgent one", d.waits('h'), 30L);
        d.go(1);
        Check.same("r at 30", d.state(0), 'u');
        d.finish(100);
        Check.isTrue("then the write", d.doneAt(1) > d.doneAt(0));
        Check.same("what was there before", d.valueOf(0), 0);
    }

    static void drainingBeginsAtTheUpperMark() {
        for (int mark = 1; mark <= 8; mark++) {
            Dramwright d = new Dramwright();
            d.policy('u', mark);
            d.policy('l', 0);
            d.distance('A', 99);
            d.read(0, Check.at(1, 0, 0, 0));
            for (int i = 0; i < mark; i++) {
                d.go(1);
                Check.isFalse(i + " of " + mark, d.isDraining());
                d.write(0, i, i, 15, false);
            }
            d.go(1);
            Check.isTrue("as many", d.isDraining());
            Check.same("and so are writes looked at", d.openRow(0, 0), 0);
        }
    }

    static void drainingBeginsAboveTheUpperMark() {
        Dramwright d = new Dramwright();
        d.policy('u', 8);
        Check.bringWrites(d, 7);
        d.go(1);
        Check.isFalse("7 of 8", d.isDraining());
        d.policy('u', 3);
        d.go(1);
        Check.isTrue("7 of 3", d.isDraining());
    }

    static void drainingEndsAtTheLowerMarkIfAReadWaits() {
        for (int mark = 0; mark <= 7; mark++) {
            Dramwright d = new Dramwright();
            d.policy('u', 8);
            d.policy('l', mark);
            Check.bringWrites(d, 8);
            d.read(0, Check.at(1, 0, 0, 0));
            for (int i = 0; i < 100 && d.queued(true) > mark; i++) {
                d.go(1);
                Check.isTrue("mark " + mark + ", the cycle began with more", d.isDraining());
            }
            Check.same("as few", d.queued(true), mark);
            Check.same("the read waited", d.openRow(1, 0), -1);
            d.go(1);
            Check.isFalse("as the next cycle begins", d.isDraining());
            Check.same("the read is looked at", d.openRow(1, 0), 0);
        }
    }

    static void drainingGoesOnBelowTheLowerMarkWhileNoReadWaits() {
        Dramwright d = new Dramwright();
        d.policy('u', 3);
        Check.bringWrites(d, 3);
        d.finish(100);
        Check.same("none waits", d.queued(true), 0);
        d.go(50);
        Check.isTrue("it goes on", d.isDraining());
        d.policy('p', 1);
        d.go(1);
        Check.isFalse("a patrol's read ends it", d.isDraining());
    }

    static void theBeginningIsLookedAtFirst() {
        Dramwright d = new Dramwright();
        d.policy('u', 4);
        d.policy('l', 4);
        d.read(0, Check.at(1, 0, 0, 0));
        Check.bringWrites(d, 4);
        d.go(1);
        Check.isFalse("begun by 4, ended by 4", d.isDraining());
        Check.same("the read is looked at", d.openRow(1, 0), 0);
        d.write(0, 5, 5, 15, false);
        d.go(1);
        Check.isTrue("5 are above the lower mark", d.isDraining());
    }

    static void writesAreLookedAtIfNoReadWaits() {
        Dramwright d = new Dramwright();
        d.write(0, 0, 1, 15, false);
        d.go(1);
        Check.same("one write is enough", d.openRow(0, 0), 0);
        Check.isFalse("it is not drained", d.isDraining());
        Dramwright r = new Dramwright();
        r.write(0, 0, 1, 15, false);
        r.read(0, Check.at(1, 0, 0, 0));
        r.go(4);
        Check.same("a read waits", r.openRow(0, 0), -1);
        r.go(1);
        Check.same("its r was issued at 4", r.state(1), 'u');
        r.go(1);
        Check.same("none waits now", r.openRow(0, 0), 0);
    }

    static void aRequestIsUrgentWhenItHasWaitedAsLongAsTheBound() {
        for (int bound : new int[] {10, 11, 150, 151, 999}) {
            Dramwright d = new Dramwright();
            d.policy('b', bound);
            d.policy('i', 2000);
            d.distance('A', 99);
            d.write(0, Check.at(0, 0, 3, 0), 1, 15, false);
            int reads = 0;
            for (int cycle = 0; cycle < bound; cycle++) {
                if (d.queued(false) < 2 && reads < 350) {
                    d.read(0, Check.at(1, cycle % 4, cycle / 4 % 32, 0));
                    reads++;
                }
                Check.same("not looked at, cycle " + cycle, d.openRow(0, 0), -1);
                d.go(1);
            }
            Check.same("it waited for as many", d.waited(0), bound);
            Check.same("not yet", d.openRow(0, 0), -1);
            d.go(1);
            Check.same("the next cycle opens its row", d.openRow(0, 0), 3);
        }
    }

    static void theBoundIs150AtFirst() {
        Dramwright d = new Dramwright();
        d.distance('A', 99);
        d.write(0, Check.at(0, 0, 3, 0), 1, 15, false);
        for (int cycle = 0; cycle < 150; cycle++) {
            if (d.queued(false) < 2) {
                d.read(0, Check.at(1, cycle % 4, cycle / 4 % 32, 0));
            }
            d.go(1);
        }
        Check.same("150 waited, not looked at yet", d.openRow(0, 0), -1);
        d.go(1);
        Check.same("looked at", d.openRow(0, 0), 3);
    }

    static void all17ThatCanWaitAreLookedAtIfAllAreUrgent() {
        Dramwright d = new Dramwright();
        d.distance('A', 99);
        d.policy('b', 10);
        d.policy('p', 1);
        d.master(3, 3, 1);
        d.go(2);
        for (int i = 0; i < 8; i++) {
            d.write(0, Check.at(0, 0, 1 + i, 0), 1, 15, false);
        }
        for (int i = 0; i < 7; i++) {
            d.read(0, Check.at(0, 0, 9 + i, 0));
        }
        d.read(3, Check.at(0, 1, 30, 0));
        Check.same("as many as can wait", d.queued(true) * 10 + d.queued(false), 89);
        d.go(10);
        Check.same("writes are drained, and none is urgent", Check.trace(d), "a00:0@1 p00@10");
        long before = d.waits('h');
        d.go(1);
        Check.same("all are looked at", d.waits('h') - before, 0L);
        Check.same("the youngest of all, for its priority", Check.trace(d, 2), "a01:30@12");
    }

    static void urgentOnesGoAheadOfOpenRows() {
        Dramwright d = new Dramwright();
        d.policy('b', 10);
        d.distance('H', 8);
        d.distance('C', 1);
        d.distance('K', 1);
        Check.finishedRead(d, 0, Check.at(0, 0, 0, 0));
        Check.finishedRead(d, 0, Check.at(0, 1, 3, 0));
        int before = d.commands();
        d.write(0, Check.at(0, 1, 5, 0), 1, 15, false);
        for (int i = 0; i < 8; i++) {
            d.read(0, Check.at(0, 0, 0, i));
        }
        d.go(10);
        Check.same("reads of the open row alone", Check.trace(d, before).replaceAll("@\\d+|r00:", "").trim(), "0 1");
        d.go(1);
        Check.same("p for the urgent write", (char) command(d, d.commands() - 1, 't'), 'p');
    }

    static void openRowsGoAheadOfPriorities() {
        Dramwright d = new Dramwright();
        d.master(1, 3, 1);
        Check.finishedRead(d, 0, Check.at(0, 0, 0, 0));
        d.read(1, Check.at(1, 0, 0, 0));
        d.read(0, Check.at(0, 0, 0, 1));
        d.go(2);
        Check.same("r of the open row, then a", Check.trace(d, 2), "r00:1@11 a10:0@12");
        Check.passTill(d, 30);
        int before = d.commands();
        d.read(0, Check.at(0, 0, 0, 2));
        d.read(1, Check.at(1, 1, 0, 0));
        d.go(2);
        Check.same("the older one's, too", Check.trace(d, before), "r00:2@30 a11:0@31");
    }

    static void prioritiesGoAheadOfQuotientsAndAges() {
        for (int priority = 0; priority <= 3; priority++) {
            for (int other = 0; other <= 3; other++) {
                Dramwright d = new Dramwright();
                d.master(1, priority, 9);
                d.master(2, other, 1);
                d.read(1, Check.at(1, 0, 0, 0));
                d.read(2, Check.at(1, 1, 0, 0));
                d.go(1);
                Check.same(priority + " and " + other, d.openRow(1, 0), other > priority ? -1 : 0);
            }
        }
    }

    static void lesserQuotientsGoFirstComparedExactly() {
        int[][] cases = {{1, 1, 1, 1, 0}, {1, 2, 1, 1, 0}, {1, 1, 1, 2, 1}, {2, 3, 3, 5, 1}, {3, 5, 2, 3, 0}, {7, 9, 6, 8, 1},
            {6, 8, 7, 9, 0}, {6, 8, 3, 4, 0}, {3, 4, 6, 8, 0}, {8, 9, 7, 8, 1}, {7, 8, 8, 9, 0}, {0, 1, 0, 9, 0}, {1, 9, 0, 1, 1}};
        for (int[] one : cases) {
            Dramwright d = new Dramwright();
            d.master(1, 0, one[1]);
            d.master(2, 0, one[3]);
            for (int i = 0; i < one[0]; i++) {
                Check.finishedRead(d, 1, Check.at(0, 3, 0, 0));
            }
            for (int i = 0; i < one[2]; i++) {
                Check.finishedWrite(d, 2, Check.at(0, 3, 0, 0), 1);
            }
            d.read(1, Check.at(1, 0, 0, 0));
            d.read(2, Check.at(1, 1, 0, 0));
            d.go(1);
            Check.same(one[0] + " by " + one[1] + " and " + one[2] + " by " + one[3], d.openRow(1, 1), one[4] == 1 ? 0 : -1);
        }
    }

    static void forwardedRequestsAreNotIssued() {
        Dramwright d = new Dramwright();
        d.write(0, 0, 1, 15, false);
        for (int i = 0; i < 5; i++) {
            d.read(1, 0);
        }
        d.finish(100);
        Check.finishedRead(d, 2, Check.at(0, 3, 0, 0));
        d.read(2, Check.at(1, 0, 0, 0));
        d.read(1, Check.at(1, 1, 0, 0));
        d.go(1);
        Check.same("0 of the master 1 against 1 of the master 2", d.openRow(1, 1), 0);
    }

    static void theOlderOneGoesFirstAtLast() {
        Dramwright d = new Dramwright();
        d.read(3, Check.at(1, 1, 0, 0));
        d.read(0, Check.at(1, 0, 0, 0));
        d.go(1);
        Check.same("the older one", d.openRow(1, 1), 0);
    }

    static void aRowIsShutForAnotherOneUnlessItIsWanted() {
        Dramwright d = new Dramwright();
        d.distance('H', 40);
        d.distance('C', 1);
        d.distance('K', 1);
        Check.finishedRead(d, 0, Check.at(0, 0, 0, 0));
        d.read(0, Check.at(0, 0, 1, 0));
        d.read(0, Check.at(0, 0, 0, 1));
        d.go(30);
        Check.same("a request looked at is for the open row", d.openRow(0, 0), 0);
        Dramwright e = new Dramwright();
        e.distance('C', 1);
        e.distance('K', 1);
        Check.finishedRead(e, 0, Check.at(0, 0, 0, 0));
        e.read(0, Check.at(0, 0, 1, 0));
        e.go(1);
        Check.same("none is", e.openRow(0, 0), -1);
    }

    static void aRowIsShutForAnUrgentOneThoughItIsWanted() {
        Dramwright d = new Dramwright();
        d.policy('b', 20);
        d.distance('H', 60);
        d.distance('C', 1);
        d.distance('K', 1);
        Check.finishedRead(d, 0, Check.at(0, 0, 0, 0));
        d.read(0, Check.at(0, 0, 1, 0));
        d.read(0, Check.at(0, 0, 0, 1));
        d.go(20);
        Check.same("20 waited, not urgent till the cycle before", d.openRow(0, 0), 0);
        d.go(1);
        Check.same("urgent, both: the other row's is older, but the open row's first", d.openRow(0, 0), -1);
    }

    static void aRequestIsDoneAsTheCycleBeginsInWhichItsDataEnd() {
        Dramwright d = new Dramwright();
        d.read(0, 0);
        d.go(10);
        Check.same("the cycle 10 is next", d.state(0), 'u');
        Check.same("code", Check.answer(() -> d.code('c')), "throws.IllegalStateException");
        d.go(1);
        Check.same("done as it began", d.doneAt(0), 10L);
    }

    static void aPartialWriteKeepsTheOtherBytesAsTheyAreReadMended() {
        Dramwright d = new Dramwright();
        Check.finishedWrite(d, 0, 0, 0x11223344);
        d.flip(0, 0, 0, 0, 31);
        d.write(0, 0, 0xAABBCCDD, 1, false);
        d.finish(100);
        int read = Check.finishedRead(d, 0, 0);
        Check.same("mended and written", Integer.toHexString(d.valueOf(read)) + d.flagOf(read), "112233ddr");
        Check.same("the bit is stored mended", d.flip(0, 0, 0, 0, 31), 1);
    }

    static void aPartialWriteOfALostOrPoisonedWordIsPoisoned() {
        for (int what = 0; what < 3; what++) {
            for (int mask = 1; mask <= 15; mask++) {
                Dramwright d = new Dramwright();
                d.write(0, 0, 0x11223344, 15, what == 1);
                d.finish(100);
                if (what == 2) {
                    d.flip(0, 0, 0, 0, 30);
                    d.flip(0, 0, 0, 0, 31);
                }
                d.write(0, 0, 0xAABBCCDD, mask, false);
                d.finish(100);
                int read = Check.finishedRead(d, 0, 0);
                char due = what == 0 || mask == 15 ? 'r' : 'p';
                Check.same("what " + what + " mask " + mask, d.flagOf(read), due);
            }
        }
    }

    static void inACycleAtMostOneCommandIsIssued() {
        Dramwright d = new Dramwright();
        d.policy('p', 1);
        d.policy('a', 1);
        d.policy('r', 1);
        d.rows('c');
        for (int i = 0; i < 200; i++) {
            if (i % 3 == 0 && d.queued(false) < 8) {
                d.read(0, i * 333 % 4096);
            }
            Check.isTrue("at most one", d.go(1) <= 1);
        }
        for (int i = 1; i < d.commands(); i++) {
            Check.isTrue("in its own cycle", d.command(i, 'c') > d.command(i - 1, 'c'));
        }
    }
}
