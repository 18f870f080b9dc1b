import java.util.Objects;
import java.util.function.BooleanSupplier;

/** What the tests share: comparisons that fail with a text, and short names for addresses and traces. */
final class Check {
    /** Numbers that no argument may have. */
    static final int[] FAR = {Integer.MIN_VALUE, -1000, 1000000, Integer.MAX_VALUE};

    private Check() {
    }

    /** A call that a test makes. */
    interface Call {
        void make();
    }

    static void same(String what, Object got, Object due) {
        Object one = got instanceof Integer ? Long.valueOf((Integer) got) : got;
        Object other = due instanceof Integer ? Long.valueOf((Integer) due) : due;
        if (!Objects.equals(one, other)) {
            throw new AssertionError(what + ": got " + got + ", due is " + due);
        }
    }

    static void isTrue(String what, boolean holds) {
        same(what, holds, true);
    }

    static void isFalse(String what, boolean holds) {
        same(what, holds, false);
    }

    static void illegal(String what, Call call) {
        thrown(what, IllegalArgumentException.class, call);
    }

    static void badState(String what, Call call) {
        thrown(what, IllegalStateException.class, call);
    }

    static void outOfBounds(String what, Call call) {
        thrown(what, IndexOutOfBoundsException.class, call);
    }

    /** The exception must be thrown by the class itself, not by the machine or the library in it. */
    static void thrown(String what, Class<?> due, Call call) {
        RuntimeException got = null;
        try {
            call.make();
        } catch (RuntimeException e) {
            got = e;
        }
        same(what + " throws", got == null ? null : got.getClass(), due);
        same(what + " is thrown by", got.getStackTrace()[0].getClassName(), "Dramwright");
        same(what + " has no text of the machine", got.getMessage(), null);
    }

    /** A question whose answer may be an exception. */
    interface Question {
        Object ask();
    }

    /** The answer, or the name of the exception that was thrown instead. */
    static Object answer(Question question) {
        try {
            return question.ask();
        } catch (RuntimeException e) {
            return "throws." + e.getClass().getSimpleName();
        }
    }

    /** The address that the map 0 puts at a place. */
    static int at(int rank, int bank, int row, int column) {
        return column | bank << 4 | rank << 6 | row << 7;
    }

    /** Brings a read, lets all requests be done, and tells its number. */
    static int finishedRead(Dramwright d, int master, int address) {
        int request = d.read(master, address);
        d.finish(300);
        return request;
    }

    /** The word that a read of the master 0 reads. */
    static int wordAt(Dramwright d, int address) {
        return d.valueOf(finishedRead(d, 0, address));
    }

    /** How a read of the master 0 reads its word. */
    static char flagAt(Dramwright d, int address) {
        return d.flagOf(finishedRead(d, 0, address));
    }

    /** Brings a write of a whole word without poison, lets all requests be done, and tells its number. */
    static int finishedWrite(Dramwright d, int master, int address, int value) {
        int request = d.write(master, address, value, 15, false);
        d.finish(300);
        return request;
    }

    /** Brings writes to the first words, of their numbers. */
    static void bringWrites(Dramwright d, int count) {
        for (int i = 0; i < count; i++) {
            d.write(0, i, i, 15, false);
        }
    }

    /** Lets cycles pass until one is next. */
    static void passTill(Dramwright d, int cycle) {
        pass(d, (int) (cycle - d.cycle()));
    }

    /** Lets many cycles pass. */
    static void pass(Dramwright d, int cycles) {
        for (int left = cycles; left > 0; left -= 150) {
            d.go(Math.min(left, 150));
        }
    }

    /** Lets cycles pass, one by one, as long as something holds; it must end. */
    static void goWhile(Dramwright d, BooleanSupplier holds) {
        for (int cycles = 0; holds.getAsBoolean(); cycles++) {
            isTrue("it ends in " + cycles + " cycles", cycles < 1000);
            d.go(1);
        }
    }

    /** The commands from one on, as letter, rank, bank, number and cycle: a01:5@0 opens row 5 of bank 1 of rank 0. */
    static String trace(Dramwright d, int from) {
        StringBuilder text = new StringBuilder();
        for (int i = from; i < d.commands(); i++) {
            if (text.length() > 0) {
                text.append(' ');
            }
            text.append((char) d.command(i, 't')).append(d.command(i, 'k'));
            if (d.command(i, 'b') >= 0) {
                text.append(d.command(i, 'b'));
            }
            if (d.command(i, 'r') >= 0) {
                text.append(':').append(d.command(i, 'r'));
            }
            text.append('@').append(d.command(i, 'c'));
        }
        return text.toString();
    }

    static String trace(Dramwright d) {
        return trace(d, 0);
    }

    /** Sums the waits of all causes. */
    static long allWaits(Dramwright d) {
        long sum = 0;
        for (char cause : "fdhbsq".toCharArray()) {
            sum += d.waits(cause);
        }
        return sum;
    }
}
