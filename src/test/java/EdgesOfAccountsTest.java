/** The boundary cases of the promises 42 to 49 and of the Terms "Patrol" and "Accounts", each one on both sides. */
final class EdgesOfAccountsTest {
    private EdgesOfAccountsTest() {
    }

    static void energyOfNoCycleAndOfEach() {
        Dramwright d = new Dramwright();
        Check.same("none", d.energy(), 0L);
        d.read(0, 0);
        Check.same("a read alone costs none", d.energy(), 0L);
        d.go(1);
        Check.same("a, one rank with an open bank, one with none", d.energy(), 10L + 3 + 2);
        d.read(0, Check.at(0, 2, 0, 0));
        d.read(0, Check.at(1, 0, 0, 0));
        long before = d.energy();
        d.go(1);
        Check.same("a of the other rank, both have an open bank", d.energy() - before, 10L + 3 + 3);
        d.go(1);
        Check.same("a second open bank of a rank costs no more", d.energy() - before, 2 * (10L + 3 + 3));
    }

    static void energyOfManyCycles() {
        Dramwright d = new Dramwright();
        d.policy('i', 2000);
        Check.pass(d, 40000);
        Check.same("4 in each cycle, and 40 for each f", d.energy(), 160000L + 40 * d.commands());
    }

    static void energyInTheCycleOfPAndAtRest() {
        Dramwright d = new Dramwright();
        Check.finishedRead(d, 0, 0);
        d.rows('c');
        long before = d.energy();
        d.go(1);
        Check.same("p, and the bank is shut behind it", d.energy() - before, 4L + 2 + 2);
        d.go(10);
        d.policy('r', 1);
        before = d.energy();
        d.go(1);
        Check.same("d, and the rank rests behind it", d.energy() - before, 1L + 1 + 2);
    }

    static void energyOfEachLetter() {
        Dramwright d = new Dramwright();
        d.policy('a', 1);
        d.go(1);
        Check.same("f", d.energy(), 40L + 4);
        d.policy('a', 0);
        d.policy('r', 20);
        d.go(19);
        long before = d.energy();
        d.go(1);
        Check.same("d of the rank 0 or 1, which rests at once", d.energy() - before, 1L + 1 + 2);
        d.go(1);
        Check.same("d of the other one", d.energy() - before, 4L + 1 + 1 + 1);
        d.go(1);
        Check.same("both rest", d.energy() - before, 4L + 3 + 2);
    }

    static void waitsTakesItsLettersAlone() {
        Dramwright d = new Dramwright();
        for (int letter = 0; letter < 256; letter++) {
            char cause = (char) letter;
            if ("fdhbsq".indexOf(cause) < 0) {
                Check.illegal("letter " + letter, () -> d.waits(cause));
            } else {
                Check.same("none yet", d.waits(cause), 0L);
            }
        }
        Twins.illegal("no such cause", Twins::busy, e -> e.waits('x'));
        Check.illegal("far", () -> d.waits((char) ('f' + 256)));
    }

    /** What a read waits for in each cycle, as letters. */
    private static String causes(Dramwright d, int cycles) {
        StringBuilder text = new StringBuilder();
        for (int i = 0; i < cycles; i++) {
            long[] before = new long[6];
            for (int k = 0; k < 6; k++) {
                before[k] = d.waits("fdhbsq".charAt(k));
            }
            d.go(1);
            for (int k = 0; k < 6; k++) {
                for (long n = d.waits("fdhbsq".charAt(k)) - before[k]; n > 0; n--) {
                    text.append("fdhbsq".charAt(k));
                }
            }
            text.append('.');
        }
        return text.toString();
    }

    static void waitsForAnOpeningAndItsDistanceA() {
        Dramwright d = new Dramwright();
        d.read(0, 0);
        Check.same("a at 0 and A till 3, r at 4", causes(d, 6), "b.b.b.b...");
    }

    static void waitsForRefreshFrom32Owed() {
        Dramwright d = new Dramwright();
        d.policy('i', 50);
        Check.finishedRead(d, 0, 0);
        Check.pass(d, (int) (351 - d.cycle()));
        Check.same("28 are owed", d.owed(0), 28);
        d.read(0, 1);
        Check.same("no wait for refresh", causes(d, 1), ".");
        Check.pass(d, (int) (400 - d.cycle()));
        d.read(0, 2);
        Check.same("p, B for three cycles, f; then O", causes(d, 6), "f.f.f.f.s.s.");
    }

    static void waitsForANewMapTillItsLastCycle() {
        Dramwright d = new Dramwright();
        d.map(1, false);
        d.go(1);
        d.read(0, 0);
        Check.pass(d, 48);
        Check.same("48 cycles", d.waits('f'), 48L);
        Check.same("the last of the fifty, then a", causes(d, 2), "f.b.");
    }

    static void waitsOfRequestsForAMapThatWaitsAreAsAlways() {
        Dramwright d = new Dramwright();
        d.read(0, 0);
        d.map(1, false);
        Check.same("it has not come", causes(d, 5), "b.b.b.b..");
    }

    static void waitsForARankThatRests() {
        Dramwright d = new Dramwright();
        d.policy('r', 1);
        d.go(3);
        Check.isTrue("both rest", d.rests(0) && d.rests(1));
        d.read(0, 0);
        Check.same("S till 4, x at 5, then R", causes(d, 6), "d.d.s.s.s.b.");
    }

    static void waitsAtRestGoAheadOfNotLookedAt() {
        Dramwright d = new Dramwright();
        d.policy('r', 1);
        d.go(3);
        d.write(0, 0, 1, 15, false);
        d.read(0, Check.at(1, 0, 0, 0));
        Check.same("both ranks rest", causes(d, 1), "dd.");
    }

    static void waitsForRefreshGoAheadOfNotLookedAt() {
        Dramwright d = new Dramwright();
        d.policy('i', 50);
        Check.pass(d, 400);
        d.distance('O', 20);
        d.write(0, Check.at(1, 0, 0, 0), 1, 15, false);
        d.read(0, Check.at(0, 0, 0, 0));
        Check.same("rank 0 was refreshed, rank 1 owes 32", causes(d, 2), "fs.hs.");
    }

    static void waitsOfThoseNotLookedAt() {
        Dramwright d = new Dramwright();
        d.read(0, 0);
        d.read(0, 0);
        d.write(0, 64, 1, 15, false);
        Check.same("an older one for the address; writes beside reads", causes(d, 2), "hhb.hhb.");
    }

    static void waitsForTheBusAlone() {
        Dramwright d = new Dramwright();
        d.read(0, Check.at(0, 0, 0, 0));
        d.read(0, Check.at(1, 0, 0, 0));
        Check.same("a of each, r of the first at 4, Q for three cycles, ahead of A", causes(d, 8), "bq.bb.bb.bb.s.s.s..");
    }

    private static int of(String distances, char which) {
        return distances.indexOf(which);
    }

    /** A read or write that waits for one distance alone, ahead of which all others are kept. */
    static void waitsForEachDistanceByItsKind() {
        String shared = "DEFGHJOQRS";
        String own = "ABCIKP";
        for (char which : (shared + own).toCharArray()) {
            if (which == 'S' || which == 'R') {
                continue;
            }
            Dramwright d = new Dramwright();
            for (char other = 'A'; other <= 'S'; other++) {
                d.distance(other, other == 'Q' ? 0 : 1);
            }
            d.distance(which, which == 'Q' ? 9 : 60);
            waitFor(d, which);
            long before = Check.allWaits(d);
            long sharedBefore = d.waits('s');
            d.go(4);
            Check.same("4 waits for " + which, Check.allWaits(d) - before, 4L);
            Check.same("of the kind of " + which, d.waits('s') - sharedBefore, of(shared, which) >= 0 ? 4L : 0L);
        }
    }

    /** Brings one request that waits for a distance of 60 cycles, or for the bus. */
    private static void waitFor(Dramwright d, char which) {
        int first = Check.at(0, 0, 0, 0);
        switch (which) {
            case 'A': d.read(0, first); d.go(2); break;
            case 'B': d.read(0, first); d.finish(9); d.read(0, first + 128); d.go(2); break;
            case 'C': case 'K': d.read(0, first); d.finish(9); d.read(0, first + 128); break;
            case 'D': d.read(0, first); d.finish(9); d.read(0, Check.at(0, 2, 0, 0)); break;
            case 'E': d.read(0, first); d.finish(9); d.read(0, Check.at(0, 1, 0, 0)); break;
            case 'F':
                for (int bank = 0; bank < 4; bank++) {
                    d.read(0, Check.at(0, bank, 0, 0));
                    d.finish(9);
                }
                d.read(0, first + 128);
                d.go(2);
                break;
            case 'G':
                d.read(0, first);
                d.finish(9);
                d.read(0, Check.at(0, 2, 0, 0));
                d.go(2);
                break;
            case 'H': d.read(0, first); d.finish(9); d.read(0, first + 1); break;
            case 'I': d.write(0, first, 1, 15, false); d.finish(9); d.write(0, first + 128, 1, 15, false); break;
            case 'J': d.write(0, first, 1, 15, false); d.finish(9); d.read(0, first + 1); break;
            case 'O': d.policy('a', 1); d.go(2); d.policy('a', 0); d.read(0, first); break;
            case 'P': d.policy('a', 1); d.policy('g', 1); d.go(1); d.policy('a', 0); d.read(0, first); break;
            default:
                d.read(0, Check.at(1, 0, 0, 0));
                d.finish(9);
                d.read(0, first);
                d.go(1);
                d.read(0, Check.at(1, 0, 0, 1));
                d.go(1);
                break;
        }
    }

    static void mendedAndLostCountFrom0EachReading() {
        Dramwright d = new Dramwright();
        Check.same("none", d.mended() + d.lost(), 0);
        d.flip(0, 0, 0, 0, 3);
        d.flip(0, 0, 0, 1, 3);
        d.flip(0, 0, 0, 1, 4);
        d.read(0, 0);
        d.go(4);
        Check.same("the r is to come", d.mended(), 0);
        d.go(1);
        Check.same("counted with it", d.mended(), 1);
        d.finish(50);
        Check.finishedRead(d, 0, 1);
        Check.same("one lost", d.mended() * 10 + d.lost(), 11);
        Check.finishedRead(d, 0, 0);
        Check.same("the same word again, for a read of a master writes nothing back", d.mended(), 2);
        d.write(0, 0, 1, 15, false);
        Check.finishedRead(d, 0, 0);
        Check.same("a forwarded one reads nothing", d.mended() * 10 + d.lost(), 21);
    }

    static void patrolsComeEverySoManyCyclesUnless0() {
        for (int every : new int[] {1, 2, 37, 149, 499, 500}) {
            Dramwright d = new Dramwright();
            d.policy('p', every);
            Check.pass(d, every);
            Check.same("none till then", d.queued(false) + d.patrolled(), 0);
            d.go(1);
            Check.same("one", d.queued(false), 1);
        }
        Dramwright d = new Dramwright();
        Check.pass(d, 600);
        Check.same("none at 0", d.queued(false) + d.patrolled(), 0);
    }

    static void noPatrolComesWhileOneWaitsButWhileOneIsUnderWay() {
        Dramwright d = new Dramwright();
        d.policy('p', 1);
        d.distance('L', 30);
        d.go(2);
        Check.same("a at 1", Check.trace(d), "a00:0@1");
        d.go(3);
        Check.same("one waits", d.queued(false), 1);
        d.go(1);
        Check.same("it is under way", d.queued(false) + d.patrolled(), 0);
        d.go(1);
        Check.same("the next one came", d.queued(false), 1);
        d.go(2);
        Check.same("and is under way, too, before the first is done", Check.trace(d), "a00:0@1 r00:0@5 r00:1@8");
        Check.same("none is done", d.patrolled(), 0);
    }

    static void patrolsReadTheAddress0Behind4095() {
        Dramwright d = new Dramwright();
        for (char which = 'A'; which <= 'P'; which++) {
            d.distance(which, 1);
        }
        d.policy('i', 2000);
        d.policy('p', 1);
        d.flip(1, 3, 31, 15, 0);
        int reads = 0;
        int index = 0;
        for (int call = 0; call < 400 && reads < 4200; call++) {
            d.go(150);
            for (; index < d.commands(); index++) {
                if (d.command(index, 't') != 'r') {
                    continue;
                }
                int address = reads % 4096;
                int got = d.command(index, 'k') * 1000 + d.command(index, 'b') * 100 + d.command(index, 'r');
                int due = d.place(address, 'k') * 1000 + d.place(address, 'b') * 100 + d.place(address, 'c');
                Check.same("the patrol " + reads, got, due);
                reads++;
            }
        }
        Check.isTrue("all addresses were read, and the first ones again", reads >= 4200);
        Check.same("the last word of all was mended once, and written back", d.mended(), 1);
        Check.same("and is right now", d.flip(1, 3, 31, 15, 0), 1);
    }

    static void aPatrolWritesBackWhatItMendsAlone() {
        Dramwright d = new Dramwright();
        d.write(0, 1, 5, 15, true);
        d.finish(50);
        d.flip(0, 0, 0, 0, 31);
        d.flip(0, 0, 0, 1, 31);
        d.flip(0, 0, 0, 2, 31);
        d.flip(0, 0, 0, 2, 30);
        d.flip(0, 0, 0, 3, 38);
        d.policy('p', 25);
        d.go(115);
        d.policy('p', 0);
        d.go(20);
        Check.same("four patrols", d.patrolled(), 4);
        Check.same("three mended, one lost", d.mended() * 10 + d.lost(), 31);
        Check.same("no w", Check.trace(d).indexOf('w'), Check.trace(d).lastIndexOf('w'));
        Check.same("a data bit", d.flip(0, 0, 0, 0, 31), 1);
        Check.same("of a poisoned word, too", d.flip(0, 0, 0, 1, 31), 1);
        d.flip(0, 0, 0, 1, 31);
        Check.same("a lost one is left", d.flip(0, 0, 0, 2, 31), 0);
        Check.same("as it was flipped", d.flip(0, 0, 0, 2, 31), 1);
        Check.same("with its code, so that it is lost again", Check.flagAt(d, 2), 'l');
        Check.same("a code bit", d.flip(0, 0, 0, 3, 38), 1);
        int read = Check.finishedRead(d, 0, 1);
        Check.same("the poison stays", d.flagOf(read), 'p');
    }

    static void patrolsHaveThePriority0AndTheShare1() {
        for (int share = 1; share <= 3; share++) {
            Dramwright e = new Dramwright();
            e.rows('c');
            e.master(1, 0, share);
            for (int i = 0; i < 2; i++) {
                Check.finishedRead(e, 1, Check.at(0, 3, 0, 0));
                e.go(20);
            }
            e.policy('p', 1);
            e.go(1);
            e.policy('p', 0);
            e.go(60);
            Check.same("a patrol was issued", e.patrolled(), 1);
            int before = e.commands();
            e.policy('p', 1);
            e.read(1, Check.at(0, 0, 9, 0));
            e.go(1);
            Check.same("2 by " + share + " against 1 by 1, and the read is older", e.command(before, 'r'), share == 1 ? 0 : 9);
        }
        Dramwright d = new Dramwright();
        d.policy('p', 1);
        d.master(2, 1, 1);
        d.distance('E', 9);
        d.read(0, Check.at(0, 1, 0, 0));
        d.go(2);
        Check.finishedRead(d, 2, Check.at(0, 0, 9, 0));
        Check.same("the patrol is older, but its priority is less", Check.trace(d).substring(0, 30), "a01:0@0 r01:0@4 a00:9@9 r00:0@");
    }

    static void patrolledCountsThoseThatAreDone() {
        Dramwright d = new Dramwright();
        d.policy('p', 50);
        d.go(50);
        d.go(10);
        Check.same("a at 50, r at 54, done as 60 begins", d.patrolled(), 0);
        d.go(1);
        Check.same("one", d.patrolled(), 1);
    }

    static void hitShareNeedsOneThatWasIssued() {
        Twins.refused("none", ArithmeticException.class, Twins::fresh, d -> d.hitShare());
        Twins.refused("none issued", ArithmeticException.class, d -> d.read(0, 0), d -> d.hitShare());
        Dramwright d = new Dramwright();
        d.write(0, 0, 1, 15, false);
        d.read(0, 0);
        d.go(4);
        Check.thrown("a forwarded one is not issued", ArithmeticException.class, () -> d.hitShare());
        d.go(1);
        Check.same("w at 4", d.hitShare(), 0.0f);
    }

    static void hitShareIsOfRowsThatWereOpenAsTheyCameToWait() {
        Dramwright d = new Dramwright();
        d.read(0, 0);
        d.go(1);
        Check.finishedRead(d, 0, 1);
        Check.same("opened for the first one, open for the second one", d.hitShare(), 0.5f);
        d.read(0, Check.at(0, 0, 1, 0));
        d.go(1);
        Check.finishedRead(d, 0, 2);
        Check.same("shut already", d.hitShare(), 0.25f);
        for (int i = 0; i < 3; i++) {
            Check.finishedRead(d, 0, Check.at(0, 0, 0, i));
        }
        Check.same("1 of 7 and 3 more, as floats", d.hitShare(), (float) 4 / (float) 7);
    }

    static void meanDelayNeedsOneOfAMasterThatIsDone() {
        Twins.refused("none", ArithmeticException.class, Twins::fresh, d -> d.meanDelay());
        Twins.refused("none is done", ArithmeticException.class, d -> {
            d.read(0, 0);
            d.go(10);
        }, d -> d.meanDelay());
        Dramwright d = new Dramwright();
        d.policy('p', 1);
        d.go(50);
        Check.isTrue("patrols are done", d.patrolled() > 0);
        Check.thrown("but no request of a master", ArithmeticException.class, () -> d.meanDelay());
        d.write(0, 4095, 1, 15, false);
        d.read(0, 4095);
        Check.same("a forwarded one took 0", d.meanDelay(), 0.0);
    }

    static void meanDelayIsFromBringingToBeingDone() {
        Dramwright d = new Dramwright();
        d.go(5);
        d.read(0, 0);
        d.go(10);
        Check.thrown("done as the cycle 15 begins", ArithmeticException.class, () -> d.meanDelay());
        d.go(1);
        Check.same("from 5 to 15", d.meanDelay(), 10.0);
        d.read(0, 1);
        Check.finishedRead(d, 0, 2);
        Check.same("10, 6 and 9", d.meanDelay(), 25.0 / 3.0);
    }

    /** Something that makes words other than plain ones, or nothing. */
    private static void disturb(Dramwright d, int what) {
        switch (what) {
            case 0: d.stick(1, 0, 0, 0, 0, true); break;
            case 1: d.fade(1, 0, 0, 0, 0, 9); break;
            case 2: d.flip(1, 0, 0, 0, 0); break;
            case 3: d.eye(1, 4, 8); break;
            case 4: d.warmth(20); break;
            default: d.write(0, 4095, 1, 15, true); break;
        }
    }

    static void isConsistentInEachState() {
        Check.isTrue("new", new Dramwright().isConsistent());
        for (int what = 0; what <= 5; what++) {
            Dramwright d = new Dramwright();
            disturb(d, what);
            d.read(0, 0);
            Check.isTrue("told " + what, d.isConsistent());
            d.finish(300);
            Check.isTrue("told " + what, d.isConsistent());
        }
        Dramwright d = new Dramwright();
        Twins.busy(d);
        for (int i = 0; i < 300; i++) {
            Check.isTrue("busy", d.isConsistent());
            d.go(1);
        }
        Dramwright m = new Dramwright();
        Twins.busyWithNewMap(m);
        m.finish(300);
        Check.isTrue("behind a new map", m.isConsistent());
    }

    static void allWaitsAreThoseOfRequestsAndPatrols() {
        Dramwright d = new Dramwright();
        d.policy('p', 10);
        long patrols = 0;
        for (int i = 0; i < 50; i++) {
            d.read(i % 4, i * 129 % 4096);
            d.write(i % 4, i * 77 % 4096, i, 1 + i % 15, false);
            for (int cycle = 0; cycle < 20; cycle++) {
                d.go(1);
                long masters = 0;
                int waiting = 0;
                for (int request = 0; request < 2 * i + 2; request++) {
                    masters += d.waited(request);
                    waiting += d.state(request) == 'w' ? 1 : 0;
                }
                patrols += d.queued(false) + d.queued(true) - waiting;
                Check.same("all waits", Check.allWaits(d), masters + patrols);
            }
        }
        Check.isTrue("patrols waited, too", patrols > 0);
    }
}
