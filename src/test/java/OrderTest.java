/** The order in which requests are looked at and served, and the policies of rows. */
final class OrderTest {
    private OrderTest() {
    }

    static void olderOnesGoFirst() {
        Dramwright d = new Dramwright();
        d.read(3, Check.at(0, 0, 0, 0));
        Check.finishedRead(d, 0, Check.at(0, 0, 1, 0));
        Check.isTrue("the older one", d.doneAt(0) < d.doneAt(1));
    }

    static void openRowsGoAheadOfPriority() {
        Dramwright d = new Dramwright();
        d.master(1, 3, 1);
        Check.finishedRead(d, 0, Check.at(0, 0, 0, 0));
        d.read(1, Check.at(0, 0, 1, 0));
        Check.finishedRead(d, 0, Check.at(0, 0, 0, 1));
        Check.isTrue("the open row", d.doneAt(2) < d.doneAt(1));
    }

    static void priorityGoesAheadOfQuotients() {
        Dramwright d = new Dramwright();
        Check.finishedRead(d, 1, Check.at(0, 3, 0, 0));
        d.master(1, 1, 1);
        d.read(0, Check.at(0, 0, 0, 0));
        Check.finishedRead(d, 1, Check.at(0, 0, 1, 0));
        Check.isTrue("the greater priority", d.doneAt(2) < d.doneAt(1));
    }

    static void quotientsAreComparedExactly() {
        Dramwright d = new Dramwright();
        d.master(0, 0, 9);
        d.master(1, 0, 8);
        for (int i = 0; i < 9; i++) {
            Check.finishedRead(d, 0, Check.at(0, 3, 0, i));
        }
        for (int i = 0; i < 8; i++) {
            Check.finishedRead(d, 1, Check.at(0, 3, 0, i));
        }
        d.read(1, Check.at(0, 0, 0, 0));
        Check.finishedRead(d, 0, Check.at(0, 0, 1, 0));
        Check.isTrue("9 by 9 is 8 by 8, so the older one", d.doneAt(17) < d.doneAt(18));
        d.read(0, Check.at(0, 1, 0, 0));
        Check.finishedRead(d, 1, Check.at(0, 1, 1, 0));
        Check.isTrue("10 by 9 is less than 9 by 8", d.doneAt(19) < d.doneAt(20));
        d.read(0, Check.at(0, 2, 0, 0));
        Check.finishedRead(d, 1, Check.at(0, 2, 1, 0));
        Check.isTrue("11 by 9 is less than 10 by 8", d.doneAt(21) < d.doneAt(22));
        Check.finishedRead(d, 0, Check.at(1, 2, 0, 0));
        d.read(0, Check.at(1, 1, 0, 0));
        Check.finishedRead(d, 1, Check.at(1, 1, 1, 0));
        Check.isTrue("13 by 9 is more than 11 by 8", d.doneAt(25) < d.doneAt(24));
    }

    static void urgentOnesGoFirst() {
        Dramwright d = new Dramwright();
        d.policy('b', 10);
        d.write(0, Check.at(0, 1, 0, 0), 5, 15, false);
        for (int i = 0; i < 8; i++) {
            d.read(0, Check.at(0, 0, i, 0));
        }
        d.go(10);
        Check.same("writes are not looked at", d.waits('h'), 10L);
        Check.same("nothing was opened for it", d.openRow(0, 1), -1);
        d.go(1);
        Check.same("it waited for as long as the bound", d.openRow(0, 1), 0);
    }

    static void urgentOnesShutARowThatIsWanted() {
        Dramwright d = new Dramwright();
        d.policy('b', 20);
        Check.finishedRead(d, 0, Check.at(0, 0, 0, 0));
        d.read(0, Check.at(0, 0, 1, 0));
        for (int i = 0; i < 10; i++) {
            d.read(0, Check.at(0, 0, 0, i));
            d.go(2);
        }
        Check.same("the open row is wanted", d.openRow(0, 0), 0);
        Check.same("three are left besides", d.queued(false), 4);
        d.go(3);
        Check.same("one waited for as long as the bound", d.openRow(0, 0), -1);
        d.finish(300);
        Check.isTrue("so it went ahead of the rest", d.doneAt(1) < d.doneAt(10));
    }

    static void rowsThatAreWantedStayOpen() {
        Dramwright d = new Dramwright();
        Check.finishedRead(d, 0, Check.at(0, 0, 0, 0));
        d.master(1, 3, 1);
        d.read(1, Check.at(0, 0, 1, 0));
        d.read(0, Check.at(0, 0, 0, 1));
        d.go(1);
        Check.same("the hit first, no p", Check.trace(d, 2), "r00:1@11");
    }

    /** The row 0 of the bank 0 is open and could be shut at any time, but an access must wait for H. */
    private static Dramwright withAnOpenRow() {
        Dramwright d = new Dramwright();
        d.distance('C', 1);
        d.distance('K', 1);
        d.distance('H', 40);
        Check.finishedRead(d, 0, Check.at(0, 0, 0, 0));
        return d;
    }

    static void aRowIsHeldForARequestThatCannotYetBeIssued() {
        Dramwright d = withAnOpenRow();
        d.read(0, Check.at(0, 0, 1, 0));
        d.read(0, Check.at(0, 0, 0, 1));
        d.go(40);
        Check.same("r at 44, then p", Check.trace(d, 2), "r00:1@44 p00@45 a00:1@49");
    }

    static void aRowIsNotHeldForRequestsElsewhere() {
        int[] elsewhere = {Check.at(0, 1, 0, 0), Check.at(1, 0, 0, 0), Check.at(0, 0, 2, 0)};
        for (int other : elsewhere) {
            Dramwright d = withAnOpenRow();
            d.read(0, Check.at(0, 0, 1, 0));
            d.read(0, other);
            d.go(1);
            Check.same("p at once", Check.trace(d, 2), "p00@11");
        }
    }

    static void aRowIsNotHeldForRequestsThatAreNotLookedAt() {
        Dramwright d = withAnOpenRow();
        d.read(0, Check.at(0, 0, 1, 0));
        d.write(0, Check.at(0, 0, 0, 1), 1, 15, false);
        d.go(1);
        Check.same("writes are not looked at", Check.trace(d, 2), "p00@11");
    }

    static void policyCLooksAtRequestsForTheRowAlone() {
        int[] elsewhere = {Check.at(0, 1, 0, 0), Check.at(1, 0, 0, 0), Check.at(0, 0, 1, 0)};
        for (int other : elsewhere) {
            Dramwright d = withAnOpenRow();
            d.rows('c');
            d.write(0, other, 1, 15, false);
            d.read(0, Check.at(1, 3, 0, 0));
            d.go(2);
            Check.same("p behind the a of the read", Check.trace(d, 2), "a13:0@11 p00@12");
        }
        Dramwright d = withAnOpenRow();
        d.rows('c');
        d.write(0, Check.at(0, 0, 0, 9), 1, 15, false);
        d.read(0, Check.at(1, 3, 0, 0));
        d.go(2);
        Check.same("a write waits for the row, looked at or not", Check.trace(d, 2), "a13:0@11");
    }

    static void sameAddressKeepsItsOrder() {
        Dramwright d = new Dramwright();
        d.policy('b', 10);
        d.write(0, 0, 0x11, 1, false);
        d.read(0, 0);
        d.write(0, 0, 0x2200, 2, false);
        Check.finishedRead(d, 0, 0);
        Check.same("behind the first write", d.valueOf(1), 0x11);
        Check.same("behind both", d.valueOf(3), 0x2211);
        Check.isTrue("consistent", d.isConsistent());
    }

    static void drainingBeginsAtTheUpperMarkOfAtFirst6() {
        Dramwright d = new Dramwright();
        for (int i = 0; i < 5; i++) {
            d.write(0, Check.at(0, 0, 0, i), i, 15, false);
        }
        d.read(0, Check.at(1, 0, 0, 0));
        d.go(1);
        Check.isFalse("5 are too few", d.isDraining());
        Check.same("the read is looked at", Check.trace(d), "a10:0@0");
        d.write(0, Check.at(0, 0, 0, 5), 5, 15, false);
        d.go(1);
        Check.isTrue("6 are enough", d.isDraining());
        Check.same("writes are looked at", Check.trace(d, 1), "a00:0@1");
        Check.goWhile(d, d::isDraining);
        Check.same("until 2 wait, as the cycle begins", d.queued(true), 2);
        Check.same("the read waited for it", d.state(5), 'w');
    }

    static void bothMarksAreLookedAtTheBeginningFirst() {
        Dramwright d = new Dramwright();
        d.policy('u', 2);
        d.policy('l', 5);
        d.write(0, Check.at(0, 0, 0, 0), 1, 15, false);
        d.write(0, Check.at(0, 0, 0, 1), 1, 15, false);
        d.go(1);
        Check.isTrue("as no read waits", d.isDraining());
        d.read(0, Check.at(1, 0, 0, 0));
        d.go(1);
        Check.isFalse("begun and ended at once", d.isDraining());
        Check.same("the read is looked at", Check.trace(d), "a00:0@0 a10:0@1");
    }

    static void allUrgentOnesAreLookedAt() {
        Dramwright d = new Dramwright();
        d.distance('A', 30);
        d.policy('b', 10);
        for (int i = 0; i < 8; i++) {
            d.write(0, Check.at(0, 0, i, 0), i, 15, false);
        }
        for (int i = 0; i < 7; i++) {
            d.read(0, Check.at(0, 0, 8 + i, 0));
        }
        d.master(1, 3, 1);
        d.read(1, Check.at(0, 1, 30, 0));
        d.go(20);
        Check.same("16 wait", d.queued(true) + d.queued(false), 16);
        Check.same("the youngest of all goes first by its priority",
            Check.trace(d), "a00:0@0 a01:30@10 p00@11 a00:0@15");
    }

    static void aPatrolIsNotUrgentForTheOneBefore() {
        Dramwright d = new Dramwright();
        d.distance('A', 30);
        d.policy('b', 20);
        d.policy('p', 1);
        d.rows('c');
        d.go(2);
        d.policy('p', 0);
        Check.same("a patrol waits", d.queued(false), 1);
        d.go(80);
        Check.same("it was urgent in the end", d.patrolled(), 1);
        d.master(0, 3, 1);
        d.read(0, Check.at(0, 0, 5, 0));
        d.policy('p', 1);
        int before = d.commands();
        d.go(1);
        Check.same("the next one came", d.queued(false), 2);
        Check.same("the greater priority goes first", Check.trace(d, before), "a00:5@82");
    }

    static void drainingGoesOnUntilAReadWaits() {
        Dramwright d = new Dramwright();
        d.policy('u', 4);
        d.policy('l', 1);
        for (int i = 0; i < 4; i++) {
            d.write(0, i, i, 15, false);
        }
        d.read(0, 100);
        d.go(1);
        Check.isTrue("drains", d.isDraining());
        d.go(14);
        Check.same("three were issued", d.queued(true), 1);
        Check.isFalse("1 waits, and a read", d.isDraining());
        d.finish(300);
        Check.isTrue("the read went ahead of the last write", d.doneAt(4) < d.doneAt(3));
    }

    static void policyOLeavesRowsOpen() {
        Dramwright d = new Dramwright();
        d.read(0, 0);
        d.go(150);
        Check.same("open", d.openRow(0, 0), 0);
    }

    static void policyCShutsRowsThatNoRequestWaitsFor() {
        Dramwright d = new Dramwright();
        d.rows('c');
        d.read(0, 0);
        d.read(0, 1);
        d.write(0, 2, 1, 15, false);
        d.go(150);
        Check.same("p behind the last access alone", Check.trace(d), "a00:0@0 r00:0@4 r00:1@7 w00:2@11 p00@21");
    }

    static void policyLFollowsWhatWasLearned() {
        Dramwright d = new Dramwright();
        d.rows('l');
        d.read(0, 0);
        d.go(50);
        Check.same("3: shut", d.openRow(0, 0), -1);
        d.read(0, 0);
        d.go(50);
        Check.same("2: shut", d.openRow(0, 0), -1);
        d.read(0, 0);
        d.go(50);
        Check.same("1: open", d.openRow(0, 0), 0);
    }

    static void ranksInOrderAndOneCommandACycle() {
        Dramwright d = new Dramwright();
        d.rows('c');
        d.read(0, Check.at(1, 0, 0, 0));
        d.read(0, Check.at(0, 0, 0, 0));
        d.go(100);
        Check.same("trace", Check.trace(d), "a10:0@0 a00:0@1 r10:0@4 r00:0@7 p10@9 p00@10");
    }

    static void anotherRowThatIsOpenIsNotTheirRow() {
        Dramwright d = new Dramwright();
        Check.finishedRead(d, 0, Check.at(0, 0, 0, 0));
        Check.passTill(d, 20);
        d.read(0, Check.at(0, 1, 0, 0));
        d.read(0, Check.at(0, 0, 1, 0));
        d.go(2);
        Check.same("a of the older one, then p of the younger one", Check.trace(d, 2), "a01:0@20 p00@21");
    }

    static void policyCShutsRowsWhileWritesAreDrained() {
        Dramwright d = new Dramwright();
        d.rows('c');
        for (int i = 0; i < 6; i++) {
            d.write(0, i, i, 15, false);
        }
        d.finish(300);
        d.go(10);
        Check.isTrue("no read waits, so they are drained still", d.isDraining());
        Check.same("shut", d.openRow(0, 0), -1);
    }

    static void drainingIsLookedAtInTheCyclesOfANewMap() {
        Dramwright d = new Dramwright();
        d.map(1, false);
        d.go(1);
        Check.bringWrites(d, 6);
        d.go(1);
        Check.isTrue("in the cycle 1, in which nothing is issued", d.isDraining());
        Check.same("nor was it", d.commands(), 0);
    }

    static void aRowThatWasOpenLastIsTheSameBehindARefresh() {
        Dramwright d = new Dramwright();
        Check.finishedRead(d, 0, Check.at(0, 0, 5, 0));
        d.policy('a', 1);
        Check.goWhile(d, () -> d.owed(0) == 0);
        d.policy('a', 0);
        Check.same("3 behind the first opening, and shut", d.learned(0, 0) * 10 + d.openRow(0, 0), 29);
        Check.finishedRead(d, 0, Check.at(0, 0, 5, 0));
        Check.same("1 less behind p and f", d.learned(0, 0), 2);
    }
}
