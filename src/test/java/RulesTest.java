import java.util.ArrayList;
import java.util.List;
import java.util.Random;

/** The distances, by a second checker that compares a command with each one of the trace ahead of it. */
final class RulesTest {
    private static final String LETTERS = "arwpfgdxt";

    private RulesTest() {
    }

    /** A command of a trace. */
    private static final class Step {
        final char letter;
        final int rank;
        final int bank;
        final int time;

        Step(char letter, int rank, int bank, int time) {
            this.letter = letter;
            this.rank = rank;
            this.bank = bank;
            this.time = time;
        }

        boolean is(String letters) {
            return letters.indexOf(letter) >= 0;
        }
    }

    /** Judges a trace by looking at all pairs. */
    static final class Pairs {
        private final int[] distances;
        private final List<Step> trace = new ArrayList<>();

        Pairs(int[] distances) {
            this.distances = distances;
        }

        private int of(char which) {
            return distances[which - 'A'];
        }

        int lastTime() {
            return trace.isEmpty() ? 0 : trace.get(trace.size() - 1).time;
        }

        int size() {
            return trace.size();
        }

        private boolean isResting(int rank) {
            boolean rests = false;
            for (Step step : trace) {
                if (step.rank == rank && step.is("dx")) {
                    rests = step.letter == 'd';
                }
            }
            return rests;
        }

        private boolean isOpen(int rank, int bank) {
            boolean open = false;
            for (Step step : trace) {
                if (step.rank == rank && step.bank == bank && step.is("ap")) {
                    open = step.letter == 'a';
                }
            }
            return open;
        }

        char judge(char letter, int rank, int bank, int time) {
            if (isResting(rank) != (letter == 'x')) {
                return 'z';
            }
            boolean someOpen = isOpen(rank, 0) || isOpen(rank, 1) || isOpen(rank, 2) || isOpen(rank, 3);
            if ("ag".indexOf(letter) >= 0 && isOpen(rank, bank)
                || "rwp".indexOf(letter) >= 0 && !isOpen(rank, bank)
                || "fdt".indexOf(letter) >= 0 && someOpen) {
                return 'o';
            }
            Step next = new Step(letter, rank, bank, time);
            for (char which = 'A'; which <= 'S'; which++) {
                for (int i = 0; i < trace.size(); i++) {
                    int least = leastFrom(trace.get(i), next, which, i);
                    if (least >= 0 && time - trace.get(i).time < least) {
                        return which;
                    }
                }
            }
            trace.add(next);
            return '-';
        }

        /** The least number of cycles from a step to the next one by a distance, or -1. */
        private int leastFrom(Step from, Step to, char which, int index) {
            boolean sameRank = from.rank == to.rank;
            boolean sameBank = sameRank && from.bank == to.bank;
            boolean sameGroup = from.bank / 2 == to.bank / 2;
            int writeEnd = of('M') + of('N');
            boolean holds;
            switch (which) {
                case 'A': holds = sameBank && from.is("a") && to.is("rw"); break;
                case 'B': holds = sameRank && from.is("p") && (to.is("fdt") || sameBank && to.is("ag")); break;
                case 'C': holds = sameBank && from.is("a") && to.is("p"); break;
                case 'D': holds = sameRank && !sameBank && !sameGroup && from.is("a") && to.is("a"); break;
                case 'E': holds = sameRank && !sameBank && sameGroup && from.is("a") && to.is("a"); break;
                case 'F': holds = sameRank && from.is("a") && to.is("a") && openingsBehind(index) == 3; break;
                case 'G': holds = sameRank && !sameGroup && from.is("rw") && to.is("rw"); break;
                case 'H': holds = sameRank && sameGroup && from.is("rw") && to.is("rw"); break;
                case 'I': return sameBank && from.is("w") && to.is("p") ? writeEnd + of('I') : -1;
                case 'J': return sameRank && from.is("w") && to.is("r") ? writeEnd + of('J') : -1;
                case 'K': holds = sameBank && from.is("r") && to.is("p"); break;
                case 'O': holds = sameRank && from.is("ft"); break;
                case 'P': holds = sameRank && from.is("g") && (to.is("fdt") || sameBank && to.is("arwpg")); break;
                case 'Q': return gapOnBus(from, to);
                case 'R': holds = sameRank && from.is("x"); break;
                case 'S': holds = sameRank && (from.is("d") && to.is("x") || from.is("x") && to.is("d")); break;
                default: holds = false; break;
            }
            return holds ? of(which) : -1;
        }

        private int gapOnBus(Step from, Step to) {
            if (!from.is("rw") || !to.is("rw")) {
                return -1;
            }
            int end = of(from.letter == 'r' ? 'L' : 'M') + of('N');
            int begin = of(to.letter == 'r' ? 'L' : 'M');
            int gap = from.rank != to.rank || from.letter != to.letter ? of('Q') : 0;
            return end + gap - begin;
        }

        private int openingsBehind(int index) {
            int count = 0;
            for (int i = index + 1; i < trace.size(); i++) {
                if (trace.get(i).rank == trace.get(index).rank && trace.get(i).is("a")) {
                    count++;
                }
            }
            return count;
        }
    }

    static void judgeAgreesWithAllPairs() {
        for (int seed = 0; seed < 300; seed++) {
            Random random = new Random(seed);
            Dramwright d = new Dramwright();
            int[] distances = {4, 4, 9, 2, 3, 12, 2, 3, 5, 4, 3, 4, 3, 2, 20, 10, 1, 3, 4};
            for (int i = 0; i < distances.length && seed % 3 != 0; i++) {
                int most = i == 16 ? 9 : 1 + random.nextInt(25);
                distances[i] = Math.max(i == 16 ? 0 : 1, random.nextInt(most + 1));
                d.distance((char) ('A' + i), distances[i]);
            }
            boolean isSlow = seed % 5 == 0;
            d.slow(isSlow);
            for (int i = 0; i < distances.length && isSlow; i++) {
                distances[i] = i == 13 ? distances[i] : (distances[i] + 1) / 2;
            }
            Pairs pairs = new Pairs(distances);
            for (int call = 0; call < 450; call++) {
                char letter = LETTERS.charAt(random.nextInt(random.nextInt(4) == 0 ? 9 : 4));
                int rank = random.nextInt(2);
                int bank = random.nextInt(4);
                int cycles = 1 + random.nextInt(1 + random.nextInt(12));
                char due = pairs.judge(letter, rank, bank, pairs.lastTime() + cycles);
                Check.same("seed " + seed + " call " + call + " " + letter + rank + bank,
                    d.judge(letter, rank, bank, cycles), due);
            }
            Check.same("size", d.judged(), pairs.size());
        }
    }

    static void fourOpeningsWithinF() {
        Dramwright d = new Dramwright();
        d.distance('F', 20);
        d.distance('C', 1);
        d.distance('B', 1);
        Check.same("1", d.judge('a', 0, 0, 1), '-');
        Check.same("2", d.judge('a', 0, 2, 2), '-');
        Check.same("3", d.judge('a', 0, 1, 3), '-');
        Check.same("4", d.judge('a', 0, 3, 3), '-');
        Check.same("p", d.judge('p', 0, 0, 3), '-');
        Check.same("the fourth behind the first", d.judge('a', 0, 0, 8), 'F');
        Check.same("20 behind it", d.judge('a', 0, 0, 9), '-');
    }

    static void dataOnTheBus() {
        Dramwright d = new Dramwright();
        d.judge('a', 0, 0, 1);
        d.judge('a', 0, 2, 9);
        d.judge('a', 1, 0, 9);
        Check.same("r", d.judge('r', 0, 0, 9), '-');
        Check.same("another rank", d.judge('r', 1, 0, 2), 'Q');
        Check.same("a gap of 1", d.judge('r', 1, 0, 3), '-');
        Check.same("r, then w", d.judge('w', 1, 0, 3), 'Q');
        Check.same("data of w come a cycle sooner", d.judge('w', 1, 0, 4), '-');
        Check.same("the same rank, another group, both read", d.judge('r', 0, 0, 9), '-');
        Check.same("no gap", d.judge('r', 0, 2, 2), '-');
    }
}
