import java.util.NoSuchElementException;
import java.util.Random;

/** Random calls: only what the document names is thrown, and the invariants hold. */
final class FuzzTest {
    private static final int CALLS = 512;

    private FuzzTest() {
    }

    static void onlyDeclaredExceptionsAndInvariants() {
        for (int seed = 0; seed < 150; seed++) {
            Random random = new Random(seed);
            Dramwright d = new Dramwright();
            for (int i = 0; i < CALLS - 10; i++) {
                try {
                    call(d, random, random.nextInt(60));
                } catch (IllegalArgumentException | IllegalStateException | NoSuchElementException e) {
                    thrownByTheClass(seed, e);
                } catch (IndexOutOfBoundsException e) {
                    Check.same("seed " + seed, e.getClass(), IndexOutOfBoundsException.class);
                    thrownByTheClass(seed, e);
                } catch (ArithmeticException e) {
                    thrownByTheClass(seed, e);
                }
            }
            Check.isTrue("lawful, seed " + seed, d.isLawful());
            Check.isTrue("consistent, seed " + seed, d.isConsistent());
        }
    }

    /** One object gets all calls, the other one those alone that were not refused. */
    static void refusedCallsChangeNothing() {
        for (int seed = 0; seed < 150; seed++) {
            Random random = new Random(seed);
            Dramwright all = new Dramwright();
            Dramwright taken = new Dramwright();
            int refused = 0;
            for (int i = 0; i < CALLS - 10; i++) {
                int which = random.nextInt(60);
                long seedOfCall = random.nextLong();
                try {
                    call(all, new Random(seedOfCall), which);
                } catch (RuntimeException e) {
                    refused++;
                    continue;
                }
                call(taken, new Random(seedOfCall), which);
            }
            Check.isTrue("some were refused, seed " + seed, refused > 20);
            Check.same("what is seen, seed " + seed, Twins.seen(all), Twins.seen(taken));
            Check.same("what comes of it, seed " + seed, Twins.aftermath(all), Twins.aftermath(taken));
        }
    }

    private static void thrownByTheClass(int seed, RuntimeException e) {
        Check.same("no text of the machine, seed " + seed, e.getMessage(), null);
        Check.same("seed " + seed, e.getStackTrace()[0].getClassName(), "Dramwright");
    }

    private static void call(Dramwright d, Random random, int which) {
        int rank = random.nextInt(20) == 0 ? random.nextInt(9) - 3 : random.nextInt(2);
        int bank = random.nextInt(20) == 0 ? random.nextInt(9) - 3 : random.nextInt(4);
        int row = random.nextInt(20) == 0 ? random.nextInt() : random.nextInt(34);
        int column = random.nextInt(20) == 0 ? random.nextInt(30) - 5 : random.nextInt(16);
        int bit = random.nextInt(20) == 0 ? random.nextInt(90) - 20 : random.nextInt(40);
        int address = random.nextInt(20) == 0 ? random.nextInt() : random.nextInt(8) * 513 % 4096;
        int request = random.nextInt(200) - 5;
        char letter = "ulbihrpgaskbrctfdhqwxn".charAt(random.nextInt(22));
        switch (which) {
            case 0: d.distance((char) ('A' + random.nextInt(21)), random.nextInt(101)); break;
            case 1: d.policy(letter, random.nextInt(random.nextInt(2) == 0 ? 8 : 500)); break;
            case 2: d.rows("oclx".charAt(random.nextInt(4))); break;
            case 3: d.master(random.nextInt(5), random.nextInt(5), random.nextInt(11)); break;
            case 4: if (random.nextInt(4) == 0) { d.map(random.nextInt(5), random.nextBoolean()); } break;
            case 5: d.place(address, letter); break;
            case 6: d.code("nscx".charAt(random.nextInt(4))); break;
            case 7: d.slow(random.nextBoolean()); break;
            case 8: if (random.nextInt(5) == 0) { d.warmth(random.nextInt(102)); } break;
            case 9: d.state(request); break;
            case 10: d.valueOf(request); break;
            case 11: d.flagOf(request); break;
            case 12: d.doneAt(request); break;
            case 13: d.waited(request); break;
            case 14: d.queued(random.nextBoolean()); break;
            case 15: d.openRow(rank, bank); d.learned(rank, bank); d.spares(rank, bank); break;
            case 16: d.owed(rank); d.rests(rank); d.delay(rank); break;
            case 17: d.opened(rank, bank, row); d.faults(rank, bank, row); break;
            case 18: d.command(random.nextInt(300) - 3, letter); break;
            case 19: d.judge("arwpfgdxtq".charAt(random.nextInt(10)), rank, bank, random.nextInt(30)); break;
            case 20: if (random.nextInt(6) == 0) { d.stick(rank, bank, row, column, bit, random.nextBoolean()); } break;
            case 21: if (random.nextInt(6) == 0) { d.fade(rank, bank, row, column, bit, random.nextInt(300)); } break;
            case 22: if (random.nextInt(6) == 0) { d.flip(rank, bank, row, column, bit); } break;
            case 23: if (random.nextInt(6) == 0) { d.eye(rank, random.nextInt(22), random.nextInt(18)); } break;
            case 24: d.train(rank); break;
            case 25: d.energy(); d.waits(letter); d.hitShare(); d.meanDelay(); break;
            case 26: d.isLawful(); d.isConsistent(); d.judged(); break;
            case 27: d.finish(random.nextInt(301)); break;
            default: bringOrPass(d, random, address, which); break;
        }
    }

    private static void bringOrPass(Dramwright d, Random random, int address, int which) {
        int master = random.nextInt(40) == 0 ? 4 : random.nextInt(4);
        if (which < 38) {
            d.read(master, address);
        } else if (which < 48) {
            int mask = random.nextBoolean() ? 15 : random.nextInt(17);
            d.write(master, address, random.nextInt(), mask, random.nextInt(40) == 0);
        } else {
            d.go(random.nextInt(random.nextInt(4) == 0 ? 152 : 12));
        }
    }

    static void wordsAreThoseOfAPlainRow() {
        for (int seed = 0; seed < 100; seed++) {
            Random random = new Random(seed);
            Dramwright d = new Dramwright();
            String letters = "ubhrpgasu";
            int[] values = {3, 20, 6, 15, 9, 1, 1, 1, 8};
            for (int i = 0; i < letters.length(); i++) {
                if (random.nextInt(3) == 0) {
                    d.policy(letters.charAt(i), values[i]);
                }
            }
            d.rows("ocl".charAt(seed % 3));
            int[] plain = new int[4096];
            int[] due = new int[400];
            boolean[] isRead = new boolean[400];
            int requests = 0;
            for (int i = 0; i < 200 && requests < 390; i++) {
                int address = random.nextInt(6) * 777;
                if (random.nextInt(25) == 0) {
                    d.map(random.nextInt(4), random.nextBoolean());
                    for (int left = 10; left > 0 && d.finish(300) == 300; left--) {
                        Check.isTrue("guarding may hold it up", d.guarded() > 0);
                    }
                } else if (random.nextBoolean()) {
                    if (d.queued(false) < 7) {
                        int number = d.read(random.nextInt(4), address);
                        due[number] = plain[address];
                        isRead[number] = true;
                        requests++;
                    }
                } else if (d.queued(true) < 8) {
                    int value = random.nextInt();
                    int mask = 1 + random.nextInt(15);
                    d.write(random.nextInt(4), address, value, mask, false);
                    for (int k = 0; k < 4; k++) {
                        if ((mask >> k & 1) == 1) {
                            plain[address] = plain[address] & ~(255 << 8 * k) | value & 255 << 8 * k;
                        }
                    }
                    requests++;
                }
                if (random.nextInt(3) == 0) {
                    d.go(1 + random.nextInt(20));
                }
            }
            for (int i = 0; i < 10; i++) {
                d.finish(300);
            }
            for (int i = 0; i < requests; i++) {
                Check.same("done, seed " + seed, d.state(i), 'd');
                if (isRead[i]) {
                    Check.same("word of " + i + ", seed " + seed, d.valueOf(i), due[i]);
                }
            }
            Check.isTrue("consistent", d.isConsistent());
        }
    }

    static void issuedCommandsAreLawfulByAllPairs() {
        int[] distances = {4, 4, 9, 2, 3, 12, 2, 3, 5, 4, 3, 4, 3, 2, 20, 10, 1, 3, 4};
        for (int seed = 0; seed < 40; seed++) {
            Random random = new Random(seed);
            Dramwright d = new Dramwright();
            d.policy('i', 50 + random.nextInt(100));
            d.policy('r', random.nextInt(30));
            d.policy('p', random.nextInt(30));
            d.policy('g', random.nextInt(2));
            d.policy('a', random.nextInt(2));
            d.policy('h', 2 + random.nextInt(5));
            d.rows("ocl".charAt(seed % 3));
            for (int i = 0; i < 120; i++) {
                if (d.queued(false) < 7) {
                    d.read(random.nextInt(4), random.nextInt(4096));
                }
                if (random.nextBoolean() && d.queued(true) < 8) {
                    d.write(random.nextInt(4), random.nextInt(4096), i, 15, false);
                }
                if (random.nextInt(30) == 0) {
                    d.train(random.nextInt(2));
                }
                d.go(1 + random.nextInt(40));
            }
            RulesTest.Pairs pairs = new RulesTest.Pairs(distances);
            for (int i = 0; i < Math.min(d.commands(), 1500); i++) {
                char letter = (char) d.command(i, 't');
                int bank = Math.max(0, d.command(i, 'b'));
                Check.same("command " + i + ", seed " + seed,
                    pairs.judge(letter, d.command(i, 'k'), bank, d.command(i, 'c')), '-');
            }
        }
    }
}
