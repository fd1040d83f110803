/**
 * One method for each promise: ordinary inputs, the edges that the document names, wrong inputs. No bench is called
 * more than 512 times, for what later calls answer is free.
 */
public final class AlarmBenchPromises {
    private static final int ARGUMENT = 1;
    private static final int STATE = 2;
    private static final int LAST = 1000000000;
    private static final int[] NO_ALARMS = {Integer.MIN_VALUE, -512, -2, -1, 2, 3, 511, 512, 513, Integer.MAX_VALUE};
    private static final int[] WRONG_AHEAD = {Integer.MIN_VALUE, -LAST, -1, LAST + 1, Integer.MAX_VALUE};

    private static int wrong = 0;

    private interface Call {
        int on(AlarmBench bench);
    }

    public static void main(String[] args) {
        aNewObject();
        set();
        set512();
        shift();
        shiftRanks();
        stop();
        stopAll();
        pass();
        ring();
        ringFarPast();
        told();
        wasDue();
        next();
        about();
        count();
        time();
        objectsAreApart();
        exampleOfReadme();
        System.out.println(wrong == 0 ? "all answers are as due" : wrong + " answers are not as due");
        if (wrong != 0) {
            System.exit(1);
        }
    }

    private static void due(String call, int got, int want) {
        if (got != want) {
            wrong++;
            System.out.println(call + " answered " + got + ", due is " + want);
        }
    }

    private static int thrownBy(AlarmBench bench, Call call) {
        try {
            call.on(bench);
        } catch (RuntimeException e) {
            // The exact class: a subclass thrown by the machine is not what the document names.
            if (e.getClass() == IllegalArgumentException.class) {
                return ARGUMENT;
            }
            return e.getClass() == IllegalStateException.class ? STATE : 3;
        }
        return 0;
    }

    /** The call throws what is due, and all that can be seen is as it was. */
    private static void dueThrow(String text, AlarmBench bench, int want, Call call) {
        String before = seen(bench);
        due(text + " throws (1 argument, 2 state)", thrownBy(bench, call), want);
        String after = seen(bench);
        if (!before.equals(after)) {
            wrong++;
            System.out.println(text + " threw and changed " + before + " into " + after);
        }
    }

    private static String seen(AlarmBench bench) {
        StringBuilder text = new StringBuilder();
        text.append(bench.time()).append(' ').append(bench.count(false)).append(' ').append(bench.count(true));
        text.append(' ').append(bench.next()).append(' ').append(bench.told()).append(' ').append(bench.wasDue());
        for (int alarm = 0; alarm < 4; alarm++) {
            int number = alarm;
            boolean is = thrownBy(bench, b -> b.about(number, 0)) == 0;
            text.append(is ? " " + bench.about(alarm, 0) + ":" + bench.about(alarm, 1) : " none");
        }
        return text.toString();
    }

    /** The alarms 0 and 1, due at 10 and 10, telling 100 and 101. */
    private static AlarmBench two() {
        AlarmBench bench = new AlarmBench();
        due("set(10, 100)", bench.set(10, 100), 0);
        due("set(10, 101)", bench.set(10, 101), 1);
        return bench;
    }

    private static AlarmBench twoAt40() {
        AlarmBench bench = two();
        due("pass(40)", bench.pass(40), 40);
        return bench;
    }

    private static void aNewObject() {
        AlarmBench bench = new AlarmBench();
        due("new: NONE", AlarmBench.NONE, -1);
        due("new: time()", bench.time(), 0);
        due("new: count(false)", bench.count(false), 0);
        due("new: count(true)", bench.count(true), 0);
        due("new: next()", bench.next(), -1);
        due("new: ring()", bench.ring(), -1);
        due("new: told()", bench.told(), 0);
        due("new: wasDue()", bench.wasDue(), -1);
        due("new: stopAll(0)", bench.stopAll(0), 0);
        for (int alarm : new int[] {-1, 0, 1, 511, 512}) {
            dueThrow("new: about(" + alarm + ", 0)", bench, ARGUMENT, b -> b.about(alarm, 0));
        }
    }

    private static void set() {
        AlarmBench bench = new AlarmBench();
        due("set: least", bench.set(0, Integer.MIN_VALUE), 0);
        due("set: most", bench.set(LAST, Integer.MAX_VALUE), 1);
        due("set: due at once", bench.about(0, 0), 0);
        due("set: due last", bench.about(1, 0), LAST);
        due("set: tells least", bench.about(0, 1), Integer.MIN_VALUE);
        due("set: tells most", bench.about(1, 1), Integer.MAX_VALUE);
        for (int ticks : WRONG_AHEAD) {
            dueThrow("set(" + ticks + ", 1)", bench, ARGUMENT, b -> b.set(ticks, 1));
        }
        bench.pass(7);
        dueThrow("set: one behind the last time", bench, STATE, b -> b.set(LAST - 6, 1));
        dueThrow("set: most ticks, later", bench, STATE, b -> b.set(LAST, 1));
        dueThrow("set: argument before state", bench, ARGUMENT, b -> b.set(LAST + 1, 1));
        due("set: up to the last time", bench.set(LAST - 7, 1), 2);
        due("set: due at the last time", bench.about(2, 0), LAST);
        due("set: from now", bench.set(3, 1), 3);
        due("set: from now, due", bench.about(3, 0), 10);
        bench.stop(2);
        bench.stop(0);
        due("set: the least free number", bench.set(1, 5), 0);
        due("set: the next free number", bench.set(1, 6), 2);
        due("set: behind all", bench.set(1, 7), 4);
    }

    private static void set512() {
        AlarmBench bench = new AlarmBench();
        for (int alarm = 0; alarm < 512; alarm++) {
            due("set: number " + alarm, bench.set(512 - alarm, alarm), alarm);
        }
    }

    private static void shift() {
        AlarmBench bench = two();
        due("shift: later", bench.shift(0, 20), 10);
        due("shift: due then", bench.about(0, 0), 20);
        due("shift: tells the same", bench.about(0, 1), 100);
        due("shift: the other stays", bench.about(1, 0), 10);
        bench.pass(15);
        due("shift: was due before now", bench.shift(1, 0), -5);
        due("shift: due now", bench.about(1, 0), 15);
        due("shift: was due now", bench.shift(1, 2), 0);
        due("shift: from now", bench.about(1, 0), 17);
        due("shift: the most", bench.shift(0, LAST - 15), 5);
        due("shift: due at the last time", bench.about(0, 0), LAST);
        due("shift: back", bench.shift(0, 5), LAST - 15);
        dueThrow("shift: one behind the last time", bench, STATE, b -> b.shift(0, LAST - 14));
        dueThrow("shift: most ticks, later", bench, STATE, b -> b.shift(0, LAST));
        for (int ticks : WRONG_AHEAD) {
            dueThrow("shift(0, " + ticks + ")", bench, ARGUMENT, b -> b.shift(0, ticks));
        }
        for (int alarm : NO_ALARMS) {
            AlarmBench later = twoAt40();
            dueThrow("shift(" + alarm + ", 1)", later, ARGUMENT, b -> b.shift(alarm, 1));
            dueThrow("shift(" + alarm + ", 1000000000)", later, ARGUMENT, b -> b.shift(alarm, LAST));
        }
        AlarmBench fresh = two();
        due("shift: all the time", fresh.shift(0, LAST), 10);
        due("shift: all the time, due", fresh.about(0, 0), LAST);
    }

    private static void shiftRanks() {
        AlarmBench bench = two();
        due("shift: to the same time", bench.shift(0, 10), 10);
        due("shift: one that throws gets no rank", thrownBy(bench, b -> b.shift(1, LAST + 1)), ARGUMENT);
        bench.pass(10);
        due("shift: the other comes first", bench.ring(), 1);
        due("shift: the shifted one comes behind", bench.ring(), 0);
        due("shift: no more", bench.ring(), -1);
    }

    private static void stop() {
        AlarmBench bench = two();
        due("stop(0)", bench.stop(0), 100);
        dueThrow("stop(0) again", bench, ARGUMENT, b -> b.stop(0));
        dueThrow("stop: about it", bench, ARGUMENT, b -> b.about(0, 1));
        dueThrow("stop: shift it", bench, ARGUMENT, b -> b.shift(0, 1));
        for (int alarm : NO_ALARMS) {
            dueThrow("stop(" + alarm + ")", bench, ARGUMENT, b -> b.stop(alarm));
        }
        due("stop: count", bench.count(false), 1);
        bench.pass(10);
        due("stop: the other rings", bench.ring(), 1);
        due("stop: it never rings", bench.ring(), -1);
        dueThrow("stop: one that rang", bench, ARGUMENT, b -> b.stop(1));
        due("stop: told() stays", bench.told(), 101);
        AlarmBench late = two();
        late.pass(100);
        due("stop: one that was due", late.stop(1), 101);
        due("stop: the one left", late.ring(), 0);
        due("stop: none left", late.ring(), -1);
    }

    private static void stopAll() {
        AlarmBench bench = new AlarmBench();
        int[] tells = {7, 8, 7, 0, 7, Integer.MIN_VALUE};
        for (int alarm = 0; alarm < tells.length; alarm++) {
            due("stopAll: set", bench.set(alarm, tells[alarm]), alarm);
        }
        bench.pass(2);
        due("stopAll: none tells it", bench.stopAll(9), 0);
        due("stopAll(7)", bench.stopAll(7), 3);
        due("stopAll(7) again", bench.stopAll(7), 0);
        due("stopAll: count", bench.count(false), 3);
        dueThrow("stopAll: the first is stopped", bench, ARGUMENT, b -> b.about(0, 0));
        dueThrow("stopAll: the last is stopped", bench, ARGUMENT, b -> b.about(4, 0));
        due("stopAll: numbers are free", bench.set(0, 1), 0);
        due("stopAll(0): not the free ones", bench.stopAll(0), 1);
        due("stopAll(least)", bench.stopAll(Integer.MIN_VALUE), 1);
        due("stopAll: ring", bench.ring(), 1);
        due("stopAll: not one that rang", bench.stopAll(8), 0);
        due("stopAll: told() stays", bench.told(), 8);
        due("stopAll: ring the new one", bench.ring(), 0);
        due("stopAll: none left", bench.ring(), -1);

        AlarmBench many = new AlarmBench();
        for (int alarm = 0; alarm < 511; alarm++) {
            many.set(1, 3);
        }
        due("stopAll: 511", many.stopAll(3), 511);
    }

    private static void pass() {
        AlarmBench bench = two();
        due("pass(0)", bench.pass(0), 0);
        due("pass(1)", bench.pass(1), 1);
        due("pass(200000)", bench.pass(200000), 200001);
        due("pass: time()", bench.time(), 200001);
        for (int ticks : new int[] {Integer.MIN_VALUE, -200000, -1, 200001, LAST, Integer.MAX_VALUE}) {
            dueThrow("pass(" + ticks + ")", bench, ARGUMENT, b -> b.pass(ticks));
        }
        due("pass: on", bench.pass(9), 200010);
        due("pass: alarms wait", bench.count(true), 2);
    }

    private static void ring() {
        AlarmBench bench = new AlarmBench();
        int[] ahead = {5, 3, 5, 0, 3, 6};
        for (int alarm = 0; alarm < ahead.length; alarm++) {
            bench.set(ahead[alarm], alarm + 50);
        }
        due("ring: due at once", bench.ring(), 3);
        due("ring: none is due", bench.ring(), -1);
        bench.pass(2);
        due("ring: one tick before", bench.ring(), -1);
        bench.pass(3);
        for (int alarm : new int[] {1, 4, 0, 2}) {
            due("ring: in order", bench.ring(), alarm);
            due("ring: tells", bench.told(), alarm + 50);
            due("ring: was due", bench.wasDue(), ahead[alarm]);
            dueThrow("ring: its number is free", bench, ARGUMENT, b -> b.about(alarm, 0));
        }
        due("ring: the last is not due", bench.ring(), -1);
        due("ring: the last is there", bench.count(false), 1);
        due("ring: the least free number", bench.set(1, 1), 0);
        bench.pass(1);
        due("ring: by rank, not by number", bench.ring(), 5);
        due("ring: the later rank", bench.ring(), 0);
        due("ring: none left", bench.ring(), -1);
    }

    /** Times from near to far, so that one long pass goes over many of them at once. */
    private static void ringFarPast() {
        AlarmBench bench = new AlarmBench();
        for (int alarm = 0; alarm < 60; alarm++) {
            bench.set((60 - alarm) * 3333, alarm);
        }
        due("ring: far", bench.pass(200000), 200000);
        due("ring: all ready", bench.count(true), 60);
        for (int alarm = 59; alarm >= 0; alarm--) {
            due("ring: far, in order", bench.ring(), alarm);
        }
        due("ring: far, none left", bench.ring(), -1);
    }

    private static void told() {
        AlarmBench bench = new AlarmBench();
        bench.set(0, Integer.MAX_VALUE);
        bench.set(1, Integer.MIN_VALUE);
        bench.set(2, 3);
        due("told: before a ring", bench.told(), 0);
        bench.ring();
        due("told: the first", bench.told(), Integer.MAX_VALUE);
        due("told: ring() takes none", bench.ring(), -1);
        due("told: stays", bench.told(), Integer.MAX_VALUE);
        bench.pass(1);
        due("told: stays as time passes", bench.told(), Integer.MAX_VALUE);
        bench.ring();
        due("told: the second", bench.told(), Integer.MIN_VALUE);
        bench.stop(2);
        due("told: not what stop() stopped", bench.told(), Integer.MIN_VALUE);
        bench.set(9, 77);
        due("told: not what has its number now", bench.told(), Integer.MIN_VALUE);
    }

    private static void wasDue() {
        AlarmBench bench = two();
        due("wasDue: before a ring", bench.wasDue(), -1);
        bench.set(0, 1);
        bench.ring();
        due("wasDue: time 0", bench.wasDue(), 0);
        bench.pass(30);
        due("wasDue: stays as time passes", bench.wasDue(), 0);
        bench.ring();
        due("wasDue: long ago", bench.wasDue(), 10);
        bench.shift(1, 4);
        due("wasDue: ring() takes none", bench.ring(), -1);
        due("wasDue: stays", bench.wasDue(), 10);
        bench.set(100, 1);
        due("wasDue: not what has its number now", bench.wasDue(), 10);
        bench.pass(5);
        bench.ring();
        due("wasDue: as shifted", bench.wasDue(), 34);
    }

    private static void next() {
        AlarmBench bench = new AlarmBench();
        bench.set(LAST, 1);
        due("next: the last time", bench.next(), LAST);
        bench.set(9, 1);
        bench.set(20, 1);
        due("next: the first", bench.next(), 9);
        due("next: takes nothing", bench.next(), 9);
        bench.pass(12);
        due("next: was due before", bench.next(), 9);
        bench.set(0, 1);
        due("next: still the first", bench.next(), 9);
        bench.ring();
        due("next: due now", bench.next(), 12);
        bench.stop(3);
        due("next: one to come", bench.next(), 20);
        bench.shift(2, 100);
        due("next: shifted", bench.next(), 112);
        bench.stop(2);
        due("next: far", bench.next(), LAST);
        bench.stopAll(1);
        due("next: none", bench.next(), -1);
    }

    private static void about() {
        AlarmBench bench = two();
        due("about(0, 0)", bench.about(0, 0), 10);
        due("about(0, 1)", bench.about(0, 1), 100);
        due("about(1, 1)", bench.about(1, 1), 101);
        bench = twoAt40();
        due("about: due before now", bench.about(1, 0), 10);
        for (int what : new int[] {Integer.MIN_VALUE, -1, 2, 3, Integer.MAX_VALUE}) {
            dueThrow("about(0, " + what + ")", bench, ARGUMENT, b -> b.about(0, what));
        }
        for (int alarm : NO_ALARMS) {
            AlarmBench later = twoAt40();
            dueThrow("about(" + alarm + ", 0)", later, ARGUMENT, b -> b.about(alarm, 0));
            dueThrow("about(" + alarm + ", 1)", later, ARGUMENT, b -> b.about(alarm, 1));
            dueThrow("about(" + alarm + ", 2)", later, ARGUMENT, b -> b.about(alarm, 2));
        }
    }

    private static void count() {
        AlarmBench bench = two();
        bench.set(11, 1);
        due("count: all", bench.count(false), 3);
        due("count: none ready", bench.count(true), 0);
        bench.pass(9);
        due("count: one tick before", bench.count(true), 0);
        bench.pass(1);
        due("count: due now", bench.count(true), 2);
        bench.pass(1);
        due("count: now and before", bench.count(true), 3);
        bench.shift(1, 1);
        due("count: one shifted ahead", bench.count(true), 2);
        bench.ring();
        due("count: one rang, ready", bench.count(true), 1);
        due("count: one rang, all", bench.count(false), 2);
        bench.stop(2);
        due("count: one stopped, ready", bench.count(true), 0);
        due("count: one stopped, all", bench.count(false), 1);
    }

    private static void time() {
        AlarmBench bench = two();
        bench.pass(10);
        due("time: passed", bench.time(), 10);
        bench.ring();
        bench.shift(1, 50);
        bench.set(5, 1);
        bench.stop(1);
        due("time: other calls take none", bench.time(), 10);
        bench.pass(200000);
        due("time: passed on", bench.time(), 200010);
    }

    private static void objectsAreApart() {
        AlarmBench one = two();
        AlarmBench other = new AlarmBench();
        one.pass(10);
        one.ring();
        due("apart: time", other.time(), 0);
        due("apart: count", other.count(false), 0);
        due("apart: told", other.told(), 0);
        due("apart: wasDue", other.wasDue(), -1);
        due("apart: number", other.set(1, 1), 0);
        due("apart: the first one's", one.about(1, 0), 10);
    }

    /** The example of README.md, row by row. */
    private static void exampleOfReadme() {
        AlarmBench bench = new AlarmBench();
        int tea = bench.set(5, 70);
        due("readme: set(5, 70)", tea, 0);
        int bread = bench.set(5, 71);
        due("readme: set(5, 71)", bread, 1);
        due("readme: pass(9)", bench.pass(9), 9);
        due("readme: count(true)", bench.count(true), 2);
        due("readme: ring()", bench.ring(), tea);
        due("readme: told()", bench.told(), 70);
        due("readme: wasDue()", bench.wasDue(), 5);
        due("readme: shift(bread, 3)", bench.shift(bread, 3), -4);
        due("readme: ring(), none is due", bench.ring(), AlarmBench.NONE);
        due("readme: told() stays", bench.told(), 70);
        due("readme: next()", bench.next(), 12);
        due("readme: about(bread, 0)", bench.about(bread, 0), 12);
        due("readme: stop(bread)", bench.stop(bread), 71);
        due("readme: next(), none", bench.next(), AlarmBench.NONE);
    }
}
