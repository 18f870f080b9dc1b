/**
 * Refused calls change nothing: two objects are brought to the same state, one of them is called in vain,
 * and from then on both must answer alike.
 */
final class Twins {
    private static final String POLICIES = "ulbihrpgas";
    private static final int[] LEAST = {1, 0, 10, 50, 2, 0, 0, 0, 0, 0};

    private Twins() {
    }

    /** Brings a new object to a state. */
    interface State {
        void bring(Dramwright d);
    }

    /** A call that is to be refused. */
    interface Call {
        void make(Dramwright d);
    }

    static void illegal(String what, State state, Call call) {
        refused(what, IllegalArgumentException.class, state, call);
    }

    static void badState(String what, State state, Call call) {
        refused(what, IllegalStateException.class, state, call);
    }

    static void outOfBounds(String what, State state, Call call) {
        refused(what, IndexOutOfBoundsException.class, state, call);
    }

    static void refused(String what, Class<?> due, State state, Call call) {
        Dramwright called = new Dramwright();
        Dramwright left = new Dramwright();
        state.bring(called);
        state.bring(left);
        Check.thrown(what, due, () -> call.make(called));
        Check.same(what + ": what is seen", seen(called), seen(left));
        Check.same(what + ": what comes of it", aftermath(called), aftermath(left));
    }

    /** A new object. */
    static void fresh(Dramwright d) {
        Check.same("new", d.cycle(), 0L);
    }

    /**
     * All kinds of things are told and under way: settings, faults, a trace that is judged, a rank to be
     * trained, a row to be guarded, and requests that wait, are under way and are done.
     */
    static void busy(Dramwright d) {
        d.distance('E', 4);
        d.policy('h', 2);
        d.policy('s', 1);
        d.policy('p', 45);
        d.policy('b', 30);
        d.master(1, 2, 5);
        d.rows('l');
        d.write(0, Check.at(1, 2, 4, 3), 0x1234, 15, true);
        d.read(1, Check.at(0, 0, 5, 0));
        d.finish(100);
        d.stick(0, 0, 5, 1, 7, true);
        d.fade(0, 0, 5, 2, 3, 60);
        d.flip(0, 0, 5, 3, 11);
        d.eye(1, 3, 9);
        d.warmth(31);
        d.judge('a', 0, 1, 5);
        d.judge('d', 1, 0, 2);
        d.read(2, Check.at(0, 0, 20, 0));
        d.finish(100);
        for (int column = 0; column < 4; column++) {
            d.read(3, Check.at(0, 0, 5, column));
        }
        d.write(1, Check.at(1, 1, 7, 7), 0x77, 6, false);
        d.train(1);
        d.go(18);
    }

    /** As busy, and a new map waits. */
    static void busyWithNewMap(Dramwright d) {
        busy(d);
        d.map(2, true);
    }

    /** All that can be asked without a change. */
    static String seen(Dramwright d) {
        StringBuilder text = new StringBuilder();
        text.append(d.cycle()).append(' ').append(d.commands()).append(' ').append(d.guarded());
        text.append(" q").append(d.queued(true)).append(',').append(d.queued(false)).append(d.isDraining());
        text.append(" e").append(d.energy()).append(" m").append(d.mended()).append(" l").append(d.lost());
        text.append(" p").append(d.patrolled()).append(d.isLawful()).append(d.isConsistent());
        for (char cause : "fdhbsq".toCharArray()) {
            text.append(' ').append(cause).append(d.waits(cause));
        }
        text.append(' ').append(Check.answer(() -> d.hitShare())).append(Check.answer(() -> d.meanDelay()));
        for (int rank = 0; rank < 2; rank++) {
            text.append("\nrank ").append(d.owed(rank)).append(d.rests(rank)).append(d.delay(rank));
            for (int bank = 0; bank < 4; bank++) {
                text.append(" bank ").append(d.openRow(rank, bank)).append(',').append(d.learned(rank, bank));
                text.append(',').append(d.spares(rank, bank)).append(':');
                for (int row = 0; row < 34; row++) {
                    text.append(d.opened(rank, bank, row)).append('/').append(d.faults(rank, bank, row)).append(' ');
                }
            }
        }
        for (int address = 0; address < 4096; address += 7) {
            for (char what : "kbrc".toCharArray()) {
                text.append(d.place(address, what)).append(what);
            }
        }
        appendRequests(text, d);
        return text.append('\n').append(Check.trace(d)).toString();
    }

    private static void appendRequests(StringBuilder text, Dramwright d) {
        for (int i = 0; i < 400; i++) {
            int request = i;
            Object state = Check.answer(() -> d.state(request));
            if (!(state instanceof Character)) {
                return;
            }
            text.append('\n').append(i).append(state).append(d.waited(i));
            text.append(' ').append(Check.answer(() -> d.valueOf(request)));
            text.append(' ').append(Check.answer(() -> d.flagOf(request)));
            text.append(' ').append(Check.answer(() -> d.doneAt(request)));
        }
    }

    /** Asks for what only shows by telling something, lets the object go on, and tells what came of it. */
    static String aftermath(Dramwright d) {
        StringBuilder text = new StringBuilder();
        for (char which = 'A'; which <= 'S'; which++) {
            char distance = which;
            Object before = Check.answer(() -> d.distance(distance, 1));
            text.append(before).append(' ');
            if (before instanceof Integer) {
                d.distance(distance, (Integer) before);
            }
        }
        appendSettings(text, d);
        for (char letter : "arwpfgdxt".toCharArray()) {
            text.append(d.judge(letter, 0, 1, 1)).append(d.judge(letter, 1, 0, 1));
        }
        text.append(d.judged()).append('\n');
        text.append(Check.answer(() -> d.read(0, Check.at(0, 0, 5, 2))));
        text.append(Check.answer(() -> d.write(1, Check.at(1, 2, 4, 3), 0xABCD, 5, false)));
        d.go(40);
        text.append(d.finish(300)).append(seen(d)).append('\n');
        text.append(Check.answer(() -> d.stick(1, 3, 33, 15, 39, true)));
        text.append(Check.answer(() -> d.fade(1, 3, 33, 15, 39, 9)));
        text.append(d.train(0)).append(d.train(1)).append(d.delay(0)).append(d.delay(1));
        text.append(Check.answer(() -> d.map(1, true)));
        text.append(d.finish(300)).append(d.go(150)).append(Check.answer(() -> d.slow(true)));
        text.append(Check.answer(() -> d.code('c')));
        text.append(Check.answer(() -> d.read(2, 5))).append(Check.answer(() -> d.read(2, Check.at(1, 2, 4, 3))));
        text.append(d.finish(300)).append(d.go(60)).append(seen(d));
        appendBits(text, d);
        return text.toString();
    }

    private static void appendSettings(StringBuilder text, Dramwright d) {
        for (int i = 0; i < POLICIES.length(); i++) {
            int before = d.policy(POLICIES.charAt(i), LEAST[i]);
            d.policy(POLICIES.charAt(i), before);
            text.append(before).append(' ');
        }
        char rows = d.rows('o');
        d.rows(rows);
        int warmth = d.warmth(20);
        d.warmth(warmth);
        text.append(rows).append(warmth);
        for (int master = 0; master < 4; master++) {
            int before = d.master(master, 0, 1);
            d.master(master, before / 10, before % 10);
            text.append(' ').append(before);
        }
        text.append('\n');
    }

    private static void appendBits(StringBuilder text, Dramwright d) {
        int[][] words = {{0, 0, 0, 0}, {0, 0, 5, 0}, {0, 0, 5, 1}, {0, 0, 5, 2}, {0, 0, 5, 3}, {1, 2, 4, 3}, {1, 3, 33, 15}};
        for (int[] word : words) {
            for (int bit = 0; bit < 40; bit++) {
                text.append(d.flip(word[0], word[1], word[2], word[3], bit));
            }
        }
    }
}
