/** The promises 42 to 49. */
final class AccountsTest {
    private AccountsTest() {
    }

    static void promise42Energy() {
        Dramwright d = new Dramwright();
        d.go(10);
        Check.same("2 for each rank with none open", d.energy(), 40L);
        d.read(0, 0);
        d.go(1);
        Check.same("a 10, and 3 with an open bank", d.energy(), 40L + 10 + 3 + 2);
        d.go(10);
        Check.same("r 8", d.energy(), 40L + 10 + 8 + 11 * 5);
        d.rows('c');
        d.go(1);
        Check.same("p 4", d.energy(), 40L + 10 + 8 + 4 + 11 * 5 + 4);
        d.policy('r', 5);
        d.go(10);
        Check.same("both rest", d.rests(0) && d.rests(1), true);
        long before = d.energy();
        d.go(10);
        Check.same("1 at rest", d.energy() - before, 20L);
    }

    static void promise42EnergyOfOtherCommands() {
        long idle = 4;
        Dramwright d = new Dramwright();
        d.write(0, 0, 1, 15, false);
        d.go(10);
        Check.same("w 8", d.energy(), 10L * 5 + 10 + 8);
        Dramwright e = new Dramwright();
        e.policy('a', 1);
        e.go(1);
        Check.same("f 40", e.energy(), 40 + idle);
        Dramwright g = new Dramwright();
        g.policy('a', 1);
        g.policy('g', 1);
        g.go(1);
        Check.same("g 12", g.energy(), 12 + idle);
        Dramwright t = new Dramwright();
        t.train(0);
        t.go(1);
        Check.same("t 20", t.energy(), 20 + idle);
        Dramwright r = new Dramwright();
        r.policy('r', 1);
        r.go(2);
        Check.same("d 1", r.energy(), idle + 1 + 1 + 2);
        r.go(1);
        Check.same("d 1", r.energy(), idle + 4 + 1 + 2);
        long before = r.energy();
        r.read(0, 0);
        r.go(3);
        Check.same("x 1 as soon as S lets it", r.energy() - before, 2L + 2 + 1 + 2 + 1);
    }

    static void promise43WaitsThrowsAndSums() {
        Dramwright d = new Dramwright();
        Check.illegal("no such cause", () -> d.waits('x'));
        Check.illegal("capital", () -> d.waits('F'));
        d.read(0, 0);
        d.read(1, 300);
        Check.finishedWrite(d, 1, 300, 5);
        Check.same("all together", Check.allWaits(d), (long) d.waited(0) + d.waited(1) + d.waited(2));
    }

    static void promise43WaitsOfOneBank() {
        Dramwright d = new Dramwright();
        Check.finishedRead(d, 0, 0);
        Check.same("A", d.waits('b'), 4L);
        Check.finishedRead(d, 0, Check.at(0, 0, 1, 0));
        Check.same("p at 11, a at 15, r at 19", Check.trace(d), "a00:0@0 r00:0@4 p00@11 a00:1@15 r00:0@19");
        Check.same("B and A", d.waits('b'), 4L + 8);
        Check.same("no others", Check.allWaits(d), 12L);
    }

    static void promise43WaitsOfSharedDistances() {
        Dramwright d = new Dramwright();
        d.read(0, Check.at(0, 0, 0, 0));
        d.read(0, Check.at(0, 1, 0, 0));
        d.go(1);
        Check.same("E", d.waits('s'), 1L);
        Check.same("A", d.waits('b'), 1L);
        d.go(3);
        Check.same("E for two more, then A", d.waits('s'), 3L);
        Check.same("A", d.waits('b'), 1L + 3 + 1);
        d.go(20);
        Check.same("trace", Check.trace(d), "a00:0@0 a01:0@3 r00:0@4 r01:0@7");
        Check.same("H at 4 to 6, ahead of A", d.waits('s'), 3L + 3);
        Check.same("A", d.waits('b'), 5L);
    }

    static void promise43EachSharedDistanceAlone() {
        Dramwright d = new Dramwright();
        d.distance('D', 9);
        d.distance('A', 99);
        twoReads(d, Check.at(0, 0, 0, 0), Check.at(0, 2, 0, 0), 9);
        Check.same("D", d.waits('s') * 1000 + d.waits('b'), 9009L);
        Dramwright g = new Dramwright();
        g.distance('G', 30);
        twoReads(g, Check.at(0, 0, 0, 0), Check.at(0, 2, 0, 0), 34);
        Check.same("G behind the r at 4, ahead of A", g.waits('s'), 30L + 2);
        Check.same("A of both", g.waits('b'), 4L + 2);
        Dramwright q = new Dramwright();
        q.distance('Q', 9);
        twoReads(q, Check.at(0, 0, 0, 0), Check.at(1, 0, 0, 0), 14);
        Check.same("Q behind the r at 4", q.waits('s'), 10L);
        Dramwright j = new Dramwright();
        j.distance('J', 40);
        Check.finishedWrite(j, 0, 0, 1);
        j.read(0, 1);
        j.go(30);
        Check.same("J", j.waits('s'), 30L);
    }

    private static void twoReads(Dramwright d, int one, int other, int cycles) {
        d.read(0, one);
        d.read(0, other);
        d.go(cycles);
    }

    static void promise43FourOpeningsAndRefreshAreShared() {
        Dramwright f = new Dramwright();
        f.distance('F', 99);
        for (int bank = 0; bank < 4; bank++) {
            f.read(0, Check.at(0, bank, 0, 0));
        }
        f.finish(300);
        f.read(0, Check.at(0, 0, 1, 0));
        long before = f.waits('s');
        int cycle = (int) f.cycle();
        f.finish(300);
        Check.same("B of the p before it, then F until 99, ahead of A",
            f.waits('s') - before, 99L - cycle);
        Check.same("opened then", f.command(f.commands() - 2, 'c'), 99);
        Dramwright o = new Dramwright();
        o.policy('a', 1);
        o.go(1);
        o.read(0, 0);
        o.go(19);
        Check.same("O", o.waits('s'), 19L);
    }

    static void promise43OtherDistancesAreOfTheBank() {
        Dramwright d = new Dramwright();
        d.distance('C', 50);
        Check.finishedRead(d, 0, Check.at(0, 0, 0, 0));
        d.read(0, Check.at(0, 0, 1, 0));
        long before = d.waits('b');
        d.go(30);
        Check.same("C", d.waits('b') - before, 30L);
        Dramwright p = new Dramwright();
        p.policy('a', 1);
        p.policy('g', 1);
        p.go(1);
        p.read(0, 0);
        p.go(9);
        Check.same("P", p.waits('b'), 9L);
    }

    static void promise43WaitsOfTheQueue() {
        Dramwright d = new Dramwright();
        d.read(0, Check.at(0, 0, 0, 0));
        d.read(0, Check.at(1, 0, 0, 0));
        d.go(1);
        Check.same("the rank 1 could have been opened", d.waits('q'), 1L);
        d.write(0, Check.at(0, 3, 0, 0), 1, 15, false);
        d.go(1);
        Check.same("writes are not looked at", d.waits('h'), 1L);
        d.read(0, Check.at(0, 0, 0, 0));
        d.go(1);
        Check.same("nor one behind an older one for its address", d.waits('h'), 3L);
    }

    static void promise43WaitsOfRestAndRefresh() {
        Dramwright d = new Dramwright();
        d.policy('r', 5);
        d.go(7);
        d.read(0, 0);
        d.go(2);
        Check.same("S from the d at 5", d.waits('d'), 2L);
        d.go(1);
        Check.same("R", d.waits('s'), 1L);
        Dramwright e = new Dramwright();
        e.policy('i', 50);
        Check.finishedRead(e, 0, 0);
        Check.pass(e, (int) (400 - e.cycle()));
        long before = e.waits('f');
        e.read(0, 1);
        e.go(1);
        Check.same("p", Check.trace(e, 2), "p00@400");
        e.go(3);
        Check.same("32 are owed", e.waits('f') - before, 4L);
        e.go(1);
        Check.same("f", (char) e.command(e.commands() - 1, 't'), 'f');
        Check.same("28 are owed, O is broken", e.waits('f') - before, 4L);
        Dramwright m = new Dramwright();
        m.map(1, false);
        m.finish(1);
        m.read(0, 0);
        m.go(100);
        Check.same("a new map has come", m.waits('f'), 49L);
    }

    static void promise44And45MendedAndLost() {
        Dramwright d = new Dramwright();
        d.flip(0, 0, 0, 0, 0);
        d.flip(0, 0, 0, 1, 0);
        d.flip(0, 0, 0, 1, 1);
        for (int i = 0; i < 3; i++) {
            d.read(0, 0);
            d.read(0, 1);
            Check.finishedRead(d, 0, 2);
        }
        Check.same("mended", d.mended(), 3);
        Check.same("lost", d.lost(), 3);
    }

    static void promise46Patrolled() {
        Dramwright d = new Dramwright();
        d.policy('p', 20);
        d.flip(0, 0, 0, 0, 5);
        d.flip(0, 0, 0, 1, 5);
        d.flip(0, 0, 0, 1, 6);
        d.go(20);
        Check.same("none before 20", d.commands() + d.queued(false), 0);
        d.go(10);
        Check.same("one under way", d.patrolled(), 0);
        d.go(1);
        Check.same("done", d.patrolled(), 1);
        Check.same("mended", d.mended(), 1);
        Check.same("written back at once", d.flip(0, 0, 0, 0, 5), 1);
        d.flip(0, 0, 0, 0, 5);
        d.go(29);
        Check.same("one at 40, the next address", d.patrolled(), 2);
        Check.same("lost", d.lost(), 1);
        Check.same("not written back", d.flip(0, 0, 0, 1, 5), 0);
        d.policy('p', 0);
        d.go(100);
        Check.same("none comes", d.patrolled(), 2);
        Check.same("no request of a master", d.finish(100), 0);
        Check.thrown("none of a master is done", ArithmeticException.class, () -> d.meanDelay());
    }

    static void promise46PatrolsWaitForEachOther() {
        Dramwright d = new Dramwright();
        d.policy('p', 1);
        d.go(6);
        Check.same("the first was issued at 5", Check.trace(d), "a00:0@1 r00:0@5");
        Check.same("the next comes as no one waits", d.queued(false), 0);
        d.go(1);
        Check.same("it came", d.queued(false), 1);
        d.go(20);
        Check.same("columns in turn", Check.trace(d).startsWith("a00:0@1 r00:0@5 r00:1@8 r00:2@11 r00:3@14"), true);
        Check.isTrue("waits of patrols count", d.isConsistent());
    }

    static void promise46PatrolIsForwarded() {
        Dramwright d = new Dramwright();
        d.write(0, 0, 1, 15, false);
        d.policy('p', 1);
        d.go(2);
        Check.same("done at once", d.patrolled(), 1);
        Check.same("without a read", d.queued(false), 0);
    }

    static void promise46NoPatrolInTheCycle0() {
        for (int every = 1; every <= 500; every++) {
            Dramwright d = new Dramwright();
            d.policy('p', every);
            Check.same("no command in the cycle 0", d.go(1), 0);
            Check.same("none waits", d.queued(false), 0);
            Check.same("none was done", d.patrolled(), 0);
            for (int left = every - 1; left > 0; left -= Math.min(left, 150)) {
                Check.same("none before it is due", d.go(Math.min(left, 150)), 0);
            }
            Check.same("none waits", d.queued(false), 0);
            d.go(1);
            Check.same("it came when so many cycles had passed", d.queued(false), 1);
        }
        Dramwright d = new Dramwright();
        d.policy('p', 2);
        d.read(0, 64);
        Check.same("a request of a master is issued in the cycle 0", d.go(1), 1);
        Check.same("alone", d.queued(false), 1);
    }

    static void promise47HitShare() {
        Dramwright d = new Dramwright();
        Check.thrown("none issued", ArithmeticException.class, () -> d.hitShare());
        d.read(0, 0);
        Check.thrown("none issued yet", ArithmeticException.class, () -> d.hitShare());
        d.finish(100);
        Check.same("no hit", d.hitShare(), 0.0f);
        Check.finishedRead(d, 0, 1);
        Check.same("one of two", d.hitShare(), 0.5f);
        d.write(0, 2, 1, 15, false);
        Check.finishedRead(d, 0, 2);
        Check.same("two of three, forwarded ones are not issued", d.hitShare(), 2.0f / 3.0f);
        d.policy('p', 1);
        d.go(1);
        d.policy('p', 0);
        d.go(50);
        Check.same("a patrol counts", d.hitShare(), 3.0f / 4.0f);
    }

    static void promise48MeanDelay() {
        Dramwright d = new Dramwright();
        Check.thrown("none done", ArithmeticException.class, () -> d.meanDelay());
        d.read(0, 0);
        d.go(10);
        Check.thrown("none done yet", ArithmeticException.class, () -> d.meanDelay());
        d.go(5);
        Check.same("10 cycles", d.meanDelay(), 10.0);
        d.write(0, 16, 1, 15, false);
        d.read(0, 16);
        Check.same("0 of a forwarded one", d.meanDelay(), 5.0);
        d.finish(50);
        Check.same("9 of the write", d.meanDelay(), 19.0 / 3.0);
    }

    static void promise49IsConsistent() {
        Dramwright d = new Dramwright();
        d.policy('p', 7);
        for (int i = 0; i < 60; i++) {
            d.write(i % 4, i * 37 % 64, i * 0x01010101, 1 + i % 15, false);
            d.read(i % 4, i * 11 % 64);
            d.go(20);
            Check.isTrue("consistent", d.isConsistent());
        }
    }

    static void promise49WhatMakesOtherWords() {
        for (int what = 0; what < 5; what++) {
            Dramwright d = new Dramwright();
            d.code('n');
            Check.finishedWrite(d, 0, 0, 1);
            switch (what) {
                case 0: d.stick(0, 0, 0, 0, 0, false); break;
                case 1: d.fade(0, 0, 0, 0, 0, 1); break;
                case 2: d.flip(0, 0, 0, 0, 0); break;
                case 3: d.eye(0, 20, 1); break;
                default: d.warmth(99); break;
            }
            Check.finishedRead(d, 0, Check.at(0, 0, 1, 0));
            Check.finishedRead(d, 0, 0);
            Check.same("another word", d.valueOf(2), 0);
            Check.isTrue("but something was told", d.isConsistent());
        }
    }

    static void promise42EnergyInTheCyclesOfANewMap() {
        Dramwright d = new Dramwright();
        Check.finishedRead(d, 0, 0);
        long before = d.energy();
        d.map(1, false);
        d.go(50);
        Check.same("3 with an open bank and 2 with none", d.energy() - before, 250L);
    }

    static void promise43WaitsOfTheRankThatRests() {
        for (int rank = 0; rank < 2; rank++) {
            Dramwright d = new Dramwright();
            Check.finishedRead(d, 0, Check.at(1 - rank, 0, 0, 0));
            d.policy('r', 1);
            d.go(1);
            Check.isTrue("one rests, the other one has an open bank", d.rests(rank) && !d.rests(1 - rank));
            d.read(0, Check.at(rank, 0, 0, 0));
            d.go(5);
            Check.same("three cycles of S, then x", d.waits('d'), 3L);
            Check.same("the fourth one behind d", Check.trace(d, 2), "d" + rank + "@11 x" + rank + "@15");
        }
    }

    static void promise43WaitsWithTheSlowClock() {
        Dramwright d = new Dramwright();
        d.slow(true);
        for (int row = 0; row < 2; row++) {
            d.read(0, Check.at(0, 0, row, 0));
            d.read(0, Check.at(1, 0, row, 0));
            d.go(8);
        }
        Check.same("each p could be issued at 8", Check.trace(d, 4).substring(0, 11), "p00@8 p10@9");
        Check.same("in the cycle 0 each a, too", d.waits('q'), 2L);
    }

    static void promise47HitsOfEachRank() {
        Dramwright d = new Dramwright();
        Check.finishedRead(d, 0, Check.at(0, 2, 7, 0));
        Check.finishedRead(d, 0, Check.at(1, 2, 7, 0));
        Check.same("the row of the other rank is another one", d.hitShare(), 0f);
        Check.finishedRead(d, 0, Check.at(1, 2, 7, 1));
        Check.same("one of three", d.hitShare(), 1f / 3f);
    }
}
