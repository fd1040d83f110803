import java.util.function.Supplier;

/**
 * What the document names but lets no bench come to in 512 calls: a 513th alarm, and a time near the last one. What
 * calls behind the 512th answer is free; this class keeps to the document's sentences there too, and this test holds
 * it to that. No promise depends on this test.
 */
public final class AlarmBenchBehind {
    private static final int ARGUMENT = 1;
    private static final int STATE = 2;
    private static final int OTHER = 3;
    private static final int NONE = -1;
    private static final int LAST = 1000000000;
    private static final int MOST_PASS = 200000;
    private static final int[] WRONG_AHEAD = {Integer.MIN_VALUE, -LAST, -1, LAST + 1, 2 * LAST, Integer.MAX_VALUE};
    private static final int[] WRONG_PASS = {Integer.MIN_VALUE, -MOST_PASS, -1, MOST_PASS + 1, LAST, Integer.MAX_VALUE};

    private static int wrong = 0;

    private interface Call {
        int on(AlarmBench bench);
    }

    public static void main(String[] args) {
        timeGrowsToTheLast();
        setRefusesA513th();
        setRefusesBehindTheLastTime();
        shiftRefusesBehindTheLastTime();
        passRefusesBehindTheLastTime();
        argumentIsNamedBeforeState();
        noSuchAlarmWhenFull();
        all512AreLikeOthers();
        all512AreCountedAndStopped();
        System.out.println(wrong == 0 ? "all answers are as due" : wrong + " answers are not as due");
        if (wrong != 0) {
            System.exit(1);
        }
    }

    private static void due(String call, int got, int want) {
        if (got != want) {
            wrong++;
            System.out.println(call + " answered " + got + ", due is " + want);
        }
    }

    private static int thrownBy(AlarmBench bench, Call call) {
        try {
            call.on(bench);
        } catch (RuntimeException e) {
            // The exact class: a subclass that the machine throws is not what the document names.
            if (e.getClass() == IllegalArgumentException.class) {
                return ARGUMENT;
            }
            return e.getClass() == IllegalStateException.class ? STATE : OTHER;
        }
        return 0;
    }

    /** The call throws what is due; of two benches made alike, the one that was so called goes on like the other. */
    private static void refused(String text, Supplier<AlarmBench> made, int want, Call call) {
        AlarmBench called = made.get();
        due(text + " throws (1 argument, 2 state)", thrownBy(called, call), want);
        String got = allThatFollows(called);
        String without = allThatFollows(made.get());
        if (!got.equals(without)) {
            wrong++;
            System.out.println(text + " threw, but then: " + got + ", without it: " + without);
        }
    }

    private static String allThatFollows(AlarmBench bench) {
        StringBuilder text = new StringBuilder();
        text.append(bench.time()).append(' ').append(bench.count(false)).append(' ').append(bench.count(true));
        text.append(' ').append(bench.next()).append(' ').append(bench.told()).append(' ').append(bench.wasDue());
        for (int alarm = 0; alarm < 512; alarm++) {
            int number = alarm;
            if (thrownBy(bench, b -> b.about(number, 0)) == 0) {
                text.append(" [").append(alarm).append(": ").append(bench.about(alarm, 0));
                text.append(' ').append(bench.about(alarm, 1)).append(']');
            }
        }
        text.append(" passes ").append(thrownBy(bench, b -> b.pass(Math.min(MOST_PASS, LAST - b.time()))));
        text.append(" rings");
        // A bench that rings for ever must fail here, not hang.
        for (int call = 0; call <= 512; call++) {
            text.append(' ').append(bench.ring()).append(' ').append(bench.told()).append(' ').append(bench.wasDue());
        }
        return text.append(" left ").append(bench.count(false)).toString();
    }

    /** 512 alarms, two due at each time from 0 on, telling their numbers. */
    private static AlarmBench full() {
        AlarmBench bench = new AlarmBench();
        for (int alarm = 0; alarm < 512; alarm++) {
            due("full: set", bench.set(alarm / 2, alarm), alarm);
        }
        return bench;
    }

    /** So many ticks before the last time: 0 is due at the last time, 1 was due at 7. */
    private static AlarmBench late(int before) {
        AlarmBench bench = new AlarmBench();
        due("late: set(last)", bench.set(LAST, 100), 0);
        due("late: set(7)", bench.set(7, 101), 1);
        for (int call = 1; call < LAST / MOST_PASS; call++) {
            due("late: pass", bench.pass(MOST_PASS), call * MOST_PASS);
        }
        due("late: last pass", bench.pass(MOST_PASS - before), LAST - before);
        return bench;
    }

    private static void dueRings(String text, AlarmBench bench, int... alarms) {
        for (int alarm : alarms) {
            due(text + ": ring()", bench.ring(), alarm);
        }
    }

    // TIME .. only grows, to 1000000000.
    private static void timeGrowsToTheLast() {
        AlarmBench bench = late(1);
        due("to the last: count(true) before", bench.count(true), 1);
        due("to the last: pass(1)", bench.pass(1), LAST);
        due("to the last: time()", bench.time(), LAST);
        due("to the last: pass(0)", bench.pass(0), LAST);
        due("to the last: next()", bench.next(), 7);
        due("to the last: set(0)", bench.set(0, 1), 2);
        due("to the last: shift(1, 0)", bench.shift(1, 0), 7 - LAST);
        due("to the last: count(true)", bench.count(true), 3);
        dueRings("to the last", bench, 0, 2, 1, NONE);
        due("to the last: wasDue()", bench.wasDue(), LAST);
    }

    // Illegal state: there are 512 ..
    private static void setRefusesA513th() {
        refused("a 513th", AlarmBenchBehind::full, STATE, b -> b.set(0, 1));
        refused("a 513th, last time", AlarmBenchBehind::full, STATE, b -> b.set(LAST, 1));
        AlarmBench bench = full();
        due("full: ring()", bench.ring(), 0);
        due("full: one is free", bench.set(9, 1), 0);
        due("full: none is free", thrownBy(bench, b -> b.set(9, 1)), STATE);
        due("full: stopAll(300)", bench.stopAll(300), 1);
        due("full: another is free", bench.set(9, 1), 300);
        due("full: stop(511)", bench.stop(511), 511);
        due("full: the last is free", bench.set(9, 1), 511);
    }

    // .. or it would be due behind 1000000000.
    private static void setRefusesBehindTheLastTime() {
        refused("late: set(2)", () -> late(1), STATE, b -> b.set(2, 1));
        refused("late: set(last)", () -> late(1), STATE, b -> b.set(LAST, 1));
        refused("at the last time: set(1)", () -> late(0), STATE, b -> b.set(1, 1));
        due("up to the last time: set(1)", late(1).set(1, 1), 2);
    }

    private static void shiftRefusesBehindTheLastTime() {
        refused("late: shift(1, 2)", () -> late(1), STATE, b -> b.shift(1, 2));
        refused("late: shift(0, last)", () -> late(1), STATE, b -> b.shift(0, LAST));
        refused("at the last time: shift(0, 1)", () -> late(0), STATE, b -> b.shift(0, 1));
        due("up to the last time: shift(1, 1)", late(1).shift(1, 1), 8 - LAST);
    }

    // Illegal state: it would be behind 1000000000.
    private static void passRefusesBehindTheLastTime() {
        refused("one behind: pass(6)", () -> late(5), STATE, b -> b.pass(6));
        refused("far behind: pass(200000)", () -> late(5), STATE, b -> b.pass(MOST_PASS));
        refused("at the last time: pass(1)", () -> late(0), STATE, b -> b.pass(1));
        due("up to the last time: pass(5)", late(5).pass(5), LAST);
    }

    // Of several exceptions the one named first is thrown.
    private static void argumentIsNamedBeforeState() {
        for (int ticks : WRONG_AHEAD) {
            refused("full: set(" + ticks + ")", AlarmBenchBehind::full, ARGUMENT, b -> b.set(ticks, 1));
            refused("late: set(" + ticks + ")", () -> late(0), ARGUMENT, b -> b.set(ticks, 1));
            refused("late: shift(0, " + ticks + ")", () -> late(0), ARGUMENT, b -> b.shift(0, ticks));
        }
        for (int ticks : WRONG_PASS) {
            refused("late: pass(" + ticks + ")", () -> late(0), ARGUMENT, b -> b.pass(ticks));
        }
        refused("late: shift(2, 1)", () -> late(0), ARGUMENT, b -> b.shift(2, 1));
    }

    // In all calls illegal argument: there is no such alarm. (All are: only the number itself can be what is wrong.)
    private static void noSuchAlarmWhenFull() {
        for (int alarm : new int[] {Integer.MIN_VALUE, NONE, 512, 1024, Integer.MAX_VALUE}) {
            refused("full: shift(" + alarm + ", 0)", AlarmBenchBehind::full, ARGUMENT, b -> b.shift(alarm, 0));
            refused("full: stop(" + alarm + ")", AlarmBenchBehind::full, ARGUMENT, b -> b.stop(alarm));
            refused("full: about(" + alarm + ", 0)", AlarmBenchBehind::full, ARGUMENT, b -> b.about(alarm, 0));
        }
    }

    // There are at most 512 ALARMS, with the numbers 0 .. 511.
    private static void all512AreLikeOthers() {
        AlarmBench bench = full();
        due("512: about(511, 0)", bench.about(511, 0), 255);
        due("512: about(511, 1)", bench.about(511, 1), 511);
        due("512: shift(511, 0)", bench.shift(511, 0), 255);
        due("512: stop(510)", bench.stop(510), 510);
        due("512: set takes 510", bench.set(0, 1), 510);
        due("512: pass", bench.pass(255), 255);
        dueRings("512", bench, 0, 1, 511, 510, 2, 3);
    }

    private static void all512AreCountedAndStopped() {
        AlarmBench bench = new AlarmBench();
        for (int alarm = 0; alarm < 512; alarm++) {
            due("all: set", bench.set(alarm, 9), alarm);
        }
        due("all: count(false)", bench.count(false), 512);
        due("all: pass(510)", bench.pass(510), 510);
        due("all: count(true), one ahead", bench.count(true), 511);
        due("all: pass(1)", bench.pass(1), 511);
        due("all: count(true)", bench.count(true), 512);
        due("all: stopAll(9)", bench.stopAll(9), 512);
        due("all: none is left", bench.count(false), 0);
        due("all: the first number again", bench.set(0, 9), 0);
    }
}
