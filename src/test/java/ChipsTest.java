/** The promises 23 to 33. */
final class ChipsTest {
    private ChipsTest() {
    }

    static void promise23OpenRow() {
        Dramwright d = new Dramwright();
        d.read(0, Check.at(1, 2, 17, 3));
        Check.same("shut", d.openRow(1, 2), -1);
        d.go(1);
        Check.same("open", d.openRow(1, 2), 17);
        Check.same("another one", d.openRow(0, 2), -1);
        Check.outOfBounds("rank 2", () -> d.openRow(2, 0));
        Check.outOfBounds("rank -1", () -> d.openRow(-1, 0));
        Check.outOfBounds("bank 4", () -> d.openRow(0, 4));
        Check.outOfBounds("bank -1", () -> d.openRow(0, -1));
    }

    static void promise24Owed() {
        Dramwright d = new Dramwright();
        Check.pass(d, 200);
        Check.same("behind the cycle 199", d.owed(0), 0);
        d.go(1);
        Check.same("behind the cycle 200", d.owed(0), 4);
        Check.same("each rank", d.owed(1), 4);
        Check.outOfBounds("2", () -> d.owed(2));
        Check.outOfBounds("-1", () -> d.owed(-1));
        d.policy('a', 1);
        Check.pass(d, 100);
        Check.isTrue("ahead", d.owed(0) < 0);
    }

    static void promise25Rests() {
        Dramwright d = new Dramwright();
        d.policy('r', 5);
        d.go(5);
        Check.isFalse("not yet", d.rests(0));
        d.go(1);
        Check.isTrue("5 cycles", d.rests(0));
        Check.isFalse("one command a cycle", d.rests(1));
        d.go(1);
        Check.isTrue("then the other one", d.rests(1));
        Check.outOfBounds("2", () -> d.rests(2));
        Check.outOfBounds("-1", () -> d.rests(-1));
    }

    static void promise26Learned() {
        Dramwright d = new Dramwright();
        int[] rows = {5, 5, 5, 6, 7, 7};
        d.rows('c');
        int[] due = {3, 2, 1, 2, 3, 2};
        for (int i = 0; i < rows.length; i++) {
            Check.finishedRead(d, 0, Check.at(0, 1, rows[i], 0));
            d.go(30);
            Check.same("shut again", d.openRow(0, 1), -1);
            Check.same("behind " + i, d.learned(0, 1), due[i]);
        }
        Check.same("others", d.learned(1, 1), 2);
        Check.outOfBounds("rank 2", () -> d.learned(2, 0));
        Check.outOfBounds("rank -1", () -> d.learned(-1, 0));
        Check.outOfBounds("bank 4", () -> d.learned(0, 4));
        Check.outOfBounds("bank -1", () -> d.learned(0, -1));
    }

    static void promise26LearnedStaysWithin() {
        Dramwright d = new Dramwright();
        d.rows('c');
        for (int i = 0; i < 6; i++) {
            Check.finishedRead(d, 0, 0);
            d.go(30);
        }
        Check.same("not below 0", d.learned(0, 0), 0);
        for (int i = 1; i < 6; i++) {
            Check.finishedRead(d, 0, Check.at(0, 0, i, 0));
            d.go(30);
        }
        Check.same("not above 3", d.learned(0, 0), 3);
    }

    static void promise27Opened() {
        Dramwright d = new Dramwright();
        d.read(0, Check.at(0, 0, 4, 0));
        Check.finishedRead(d, 0, Check.at(0, 0, 9, 0));
        Check.finishedRead(d, 0, Check.at(0, 0, 4, 0));
        Check.same("row 4", d.opened(0, 0, 4), 2);
        Check.same("row 9", d.opened(0, 0, 9), 1);
        Check.same("row 3", d.opened(0, 0, 3), 0);
        Check.outOfBounds("rank", () -> d.opened(2, 0, 0));
        Check.outOfBounds("bank", () -> d.opened(0, 4, 0));
        Check.outOfBounds("row 34", () -> d.opened(0, 0, 34));
        Check.outOfBounds("row -1", () -> d.opened(0, 0, -1));
    }

    static void promise28Guarded() {
        Dramwright d = new Dramwright();
        d.policy('h', 2);
        d.rows('c');
        openOnce(d, 5);
        Check.same("none", d.guarded(), 0);
        d.read(0, Check.at(0, 0, 5, 0));
        d.go(1);
        Check.same("both neighbours", d.guarded(), 2);
        Check.same("it counts from 0", d.opened(0, 0, 5), 0);
        int before = d.commands();
        d.go(60);
        Check.same("none is left", d.guarded(), 0);
        Check.same("1 less, then 1 more", d.command(before + 2, 'r') * 100 + d.command(before + 4, 'r'), 406);
        Check.same("an a counts as any other", d.opened(0, 0, 4) * 10 + d.opened(0, 0, 6), 11);
    }

    private static void openOnce(Dramwright d, int row) {
        Check.finishedRead(d, 0, Check.at(0, 0, row, 0));
        d.go(40);
    }

    static void promise28GuardedAtTheEdges() {
        Dramwright d = new Dramwright();
        d.policy('h', 2);
        d.rows('c');
        openOnce(d, 0);
        d.read(0, Check.at(0, 0, 0, 0));
        d.go(1);
        Check.same("row 0 has one neighbour", d.guarded(), 1);
        d.go(100);
        openOnce(d, 31);
        d.read(0, Check.at(0, 0, 31, 0));
        d.go(1);
        Check.same("row 31 has one neighbour", d.guarded(), 1);
        d.go(60);
        Check.same("it is 30", d.opened(0, 0, 30), 1);
        Check.same("not a spare row", d.opened(0, 0, 32), 0);
    }

    static void promise28NeighbourOfTheFirstSpareRow() {
        Dramwright d = new Dramwright();
        d.policy('s', 1);
        d.policy('h', 2);
        d.rows('c');
        d.stick(0, 0, 0, 0, 0, true);
        for (int i = 0; i < 3; i++) {
            openOnce(d, 0);
        }
        Check.same("replaced", d.place(0, 'r'), 32);
        openOnce(d, 0);
        d.read(0, 0);
        d.go(1);
        Check.same("the spare row was opened twice", d.openRow(0, 0), 32);
        Check.same("31 alone", d.guarded(), 1);
        d.go(60);
        Check.same("31 was opened", d.opened(0, 0, 31), 1);
    }

    static void promise29Commands() {
        Dramwright d = new Dramwright();
        Check.same("0", d.commands(), 0);
        Check.finishedRead(d, 0, 0);
        Check.same("2", d.commands(), 2);
    }

    static void promise30CommandOfALongRun() {
        Dramwright d = new Dramwright();
        d.rows('c');
        d.policy('i', 2000);
        for (int batch = 0; batch < 25; batch++) {
            for (int row = 0; row < 8; row++) {
                d.read(0, Check.at(batch % 2, batch % 4, row, batch % 16));
            }
            d.finish(300);
            d.go(30);
        }
        Check.same("24 of each batch", d.commands(), 600);
        int last = -1;
        for (int i = 0; i < 600; i += 5) {
            int batch = i / 24;
            char letter = "arp".charAt(i % 3);
            int number = letter == 'a' ? i % 24 / 3 : letter == 'r' ? batch % 16 : -1;
            Check.same("letter of " + i, d.command(i, 't'), (int) letter);
            Check.same("bank of " + i, d.command(i, 'k') * 10 + d.command(i, 'b'), batch % 2 * 10 + batch % 4);
            Check.same("number of " + i, d.command(i, 'r'), number);
            Check.isTrue("later than the one before", d.command(i, 'c') > last);
            last = d.command(i, 'c');
        }
        Check.isTrue("lawful", d.isLawful());
    }

    static void promise30Command() {
        Dramwright d = new Dramwright();
        d.write(0, Check.at(1, 3, 21, 13), 1, 15, false);
        d.rows('c');
        d.go(50);
        Check.same("trace", Check.trace(d), "a13:21@0 w13:13@4 p13@14");
        Check.same("the letter", d.command(0, 't'), (int) 'a');
        Check.same("no number", d.command(2, 'r'), -1);
        Dramwright e = new Dramwright();
        e.policy('r', 3);
        e.go(4);
        Check.same("a whole rank", e.command(0, 'b'), -1);
        Check.same("no number", e.command(0, 'r'), -1);
        Check.same("d", e.command(0, 't'), (int) 'd');
        Check.outOfBounds("3", () -> d.command(3, 'k'));
        Check.outOfBounds("-1", () -> d.command(-1, 'k'));
        Check.outOfBounds("listed first", () -> d.command(3, 'x'));
        Check.illegal("no such thing", () -> d.command(0, 'x'));
    }

    static void promise31JudgeThrows() {
        Dramwright d = new Dramwright();
        Check.outOfBounds("rank 2", () -> d.judge('a', 2, 0, 1));
        Check.outOfBounds("rank -1", () -> d.judge('a', -1, 0, 1));
        Check.outOfBounds("bank 4", () -> d.judge('a', 0, 4, 1));
        Check.outOfBounds("bank -1", () -> d.judge('a', 0, -1, 1));
        Check.outOfBounds("listed first", () -> d.judge('q', 0, 4, 0));
        Check.illegal("no such command", () -> d.judge('q', 0, 0, 1));
        Check.illegal("capital", () -> d.judge('A', 0, 0, 1));
        Check.illegal("0", () -> d.judge('a', 0, 0, 0));
        Check.illegal("1000", () -> d.judge('a', 0, 0, 1000));
        Check.same("999", d.judge('a', 0, 0, 999), '-');
        Check.same("only one is in the trace", d.judged(), 1);
    }

    static void promise31JudgeRestAndOpenBanks() {
        Dramwright d = new Dramwright();
        Check.same("x without rest", d.judge('x', 0, 0, 1), 'z');
        Check.same("r of a shut bank", d.judge('r', 0, 0, 1), 'o');
        Check.same("w of a shut bank", d.judge('w', 0, 0, 1), 'o');
        Check.same("p of a shut bank", d.judge('p', 0, 0, 1), 'o');
        Check.same("a", d.judge('a', 0, 1, 1), '-');
        Check.same("a of an open bank, ahead of distances", d.judge('a', 0, 1, 1), 'o');
        Check.same("g of an open bank", d.judge('g', 0, 1, 1), 'o');
        Check.same("f with an open bank", d.judge('f', 0, 0, 1), 'o');
        Check.same("d with an open bank", d.judge('d', 0, 0, 1), 'o');
        Check.same("t with an open bank", d.judge('t', 0, 0, 1), 'o');
        Check.same("the other rank", d.judge('d', 1, 0, 1), '-');
        Check.same("a at rest, ahead of distances", d.judge('a', 1, 0, 1), 'z');
        Check.same("d at rest", d.judge('d', 1, 0, 1), 'z');
        Check.same("p at rest, rest ahead of open banks", d.judge('p', 1, 0, 1), 'z');
        Check.same("S", d.judge('x', 1, 0, 3), 'S');
        Check.same("x, as far behind as S tells", d.judge('x', 1, 0, 4), '-');
        Check.same("R", d.judge('a', 1, 0, 2), 'R');
        Check.same("R goes ahead of S", d.judge('d', 1, 0, 2), 'R');
        Check.same("S", d.judge('d', 1, 0, 3), 'S');
        Check.same("three are in it", d.judged(), 3);
    }

    static void promise31JudgeTellsTheFirstDistance() {
        Dramwright d = new Dramwright();
        d.judge('a', 0, 0, 1);
        Check.same("A", d.judge('r', 0, 0, 3), 'A');
        Check.same("C", d.judge('p', 0, 0, 8), 'C');
        Check.same("D", d.judge('a', 0, 2, 1), 'D');
        Check.same("E", d.judge('a', 0, 1, 2), 'E');
        Check.same("w", d.judge('w', 0, 0, 4), '-');
        Check.same("C ahead of I", d.judge('p', 0, 0, 4), 'C');
        Check.same("I", d.judge('p', 0, 0, 9), 'I');
        Check.same("H ahead of J", d.judge('r', 0, 0, 2), 'H');
        Check.same("J", d.judge('r', 0, 0, 8), 'J');
        Check.same("r", d.judge('r', 0, 0, 9), '-');
        Check.same("K", d.judge('p', 0, 0, 2), 'K');
        Check.same("p", d.judge('p', 0, 0, 3), '-');
        Check.same("B", d.judge('f', 0, 0, 3), 'B');
        Check.same("f", d.judge('f', 0, 0, 4), '-');
        Check.same("O", d.judge('a', 0, 0, 19), 'O');
        Check.same("g", d.judge('g', 0, 3, 20), '-');
        Check.same("P", d.judge('t', 0, 0, 9), 'P');
        Check.same("P", d.judge('a', 0, 3, 9), 'P');
        Check.same("another bank", d.judge('a', 0, 2, 1), '-');
    }

    static void promise32Judged() {
        Dramwright d = new Dramwright();
        Check.same("empty", d.judged(), 0);
        d.judge('a', 0, 0, 1);
        d.judge('a', 0, 0, 1);
        d.judge('a', 1, 0, 1);
        Check.same("unlawful ones are not put there", d.judged(), 2);
        Check.same("empty again", d.judged(), 0);
        Check.same("nothing is open", d.judge('a', 0, 0, 1), '-');
        Check.same("no distance from the trace before", d.judge('a', 0, 1, 3), '-');
        d.judged();
        d.judge('d', 0, 0, 1);
        d.judge('d', 1, 0, 1);
        Check.same("two rest", d.judged(), 2);
        Check.same("none rests", d.judge('a', 0, 0, 1), '-');
        Check.same("none rests", d.judge('a', 1, 0, 1), '-');
    }

    static void promise33IsLawful() {
        Dramwright d = new Dramwright();
        d.policy('r', 20);
        d.rows('l');
        for (int i = 0; i < 30; i++) {
            d.slow(i % 2 == 0);
            d.read(i % 4, i * 389 % 4096);
            Check.finishedWrite(d, i % 4, i * 911 % 4096, i);
            d.rows('c');
            d.go(50);
            Check.isTrue("lawful by the distances that held", d.isLawful());
        }
    }
}
