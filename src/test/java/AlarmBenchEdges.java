import java.util.function.Supplier;

/**
 * Each sentence of the document that names a boundary case has a method of its own here, or several, in the
 * document's order, with the sentence above the first. No bench is called more than 512 times, for what later calls
 * answer is free; the cases that only come up behind them are in AlarmBenchBehind.
 */
public final class AlarmBenchEdges {
    private static final int ARGUMENT = 1;
    private static final int STATE = 2;
    private static final int OTHER = 3;
    private static final int NONE = -1;
    private static final int LAST = 1000000000;
    private static final int MOST_PASS = 200000;
    private static final int LEAST_INT = Integer.MIN_VALUE;
    private static final int MOST_INT = Integer.MAX_VALUE;
    /** No bench of this test ever has these: the first ones cannot be, the others are never set. */
    private static final int[] NEVER_THERE = {LEAST_INT, -513, -512, -2, -1, 512, 513, 1024, MOST_INT, 8, 510, 511};
    /** Among them such as would come out right if only their low bits, or a sum that has wrapped, were looked at. */
    private static final int[] WRONG_AHEAD = {LEAST_INT, LEAST_INT + 1, -LAST, -2, -1, LAST + 1, LAST + 2,
        2 * LAST, MOST_INT - 1, MOST_INT};
    private static final int[] WRONG_PASS = {LEAST_INT, LEAST_INT + 1, -LAST, -MOST_PASS, -1, MOST_PASS + 1,
        2 * MOST_PASS, LAST, LAST + 1, MOST_INT};
    private static final int[] WRONG_WHAT = {LEAST_INT, -2, -1, 2, 3, 256, 65536, 65537, MOST_INT};
    private static final int[] ANY_INT = {LEAST_INT, LEAST_INT + 1, -2, -1, 0, 1, 511, 512, LAST + 1, MOST_INT};

    /** More alarms than a bench has on which a call is refused, few enough for all to be looked at in 512 calls. */
    private static final int MOST_SEEN = 20;

    private static int wrong = 0;

    private interface Call {
        int on(AlarmBench bench);
    }

    public static void main(String[] args) {
        terms();
        newSetAndShift();
        stopsAndPass();
        ringAndLooks();
        System.out.println(wrong == 0 ? "all answers are as due" : wrong + " answers are not as due");
        if (wrong != 0) {
            System.exit(1);
        }
    }

    private static void terms() {
        timeIsAtFirst0();
        timeOnlyGrows();
        numbersAre0To511();
        highNumbersAreLikeOthers();
        ranksAreAsSet();
        ranksAreAsShifted();
        aNumberUsedAgainHasANewRank();
        ranksHoldOverTime();
        orderIsByDueTimeFirst();
        noSuchAlarmNeverSet();
        noSuchAlarmOutOfRange();
        noSuchAlarmAnyMore();
        argumentIsNamedBeforeState();
        aThrowChangesNothing();
        aThrowKeepsTheOrder();
    }

    private static void newSetAndShift() {
        aNewObjectHasNoAlarms();
        setTakes0And1000000000();
        setRefusesOtherTicks();
        setTellsAnyInt();
        setGivesTheLeastFreeNumber();
        setRefusesBehind1000000000();
        shiftTakes0And1000000000();
        shiftTellsInHowManyItWasDue();
        shiftTellsBelow0();
        shiftTellsFarBelow0();
        shiftRefusesOtherTicks();
        shiftRefusesBehind1000000000();
        shiftOfOneThatWasDue();
    }

    private static void stopsAndPass() {
        stopLeavesNoneWithItsNumber();
        stopTellsAnyInt();
        stopOfOneThatIsReady();
        stopAllOfNone();
        stopAllLooksAtAlarmsAlone();
        stopAllTakesReadyAndAhead();
        stopAllOfAll();
        passTakes0And200000();
        passRefusesOtherTicks();
    }

    private static void ringAndLooks() {
        ringIsNoneIfThereIsNone();
        ringIsNoneIfNoneIsDue();
        ringTakesOneThatIsDueNow();
        ringTakesOneThatWasDueBefore();
        ringTakesEachOnce();
        ringFreesTheNumber();
        toldIs0IfThereWasNone();
        toldStaysIfRingTakesNone();
        toldOfAnyInt();
        wasDueIsNoneIfThereWasNone();
        wasDueStaysIfRingTakesNone();
        wasDueOf0AndLater();
        nextIsNoneIfThereIsNone();
        nextIsAnyTime();
        aboutTakes0And1();
        aboutRefusesOtherWhats();
        countIs0IfThereIsNone();
        countOfReadyAtTheEdge();
        countOfMany();
        timeIsAsPassed();
    }

    private static void due(String call, int got, int want) {
        if (got != want) {
            wrong++;
            System.out.println(call + " answered " + got + ", due is " + want);
        }
    }

    private static int thrownBy(AlarmBench bench, Call call) {
        try {
            call.on(bench);
        } catch (RuntimeException e) {
            // The exact class: a subclass that the machine throws is not what the document names.
            if (e.getClass() == IllegalArgumentException.class) {
                return ARGUMENT;
            }
            return e.getClass() == IllegalStateException.class ? STATE : OTHER;
        }
        return 0;
    }

    /** The call throws what is due; of two benches made alike, the one that was so called goes on like the other. */
    private static void refused(String text, Supplier<AlarmBench> made, int want, Call call) {
        AlarmBench called = made.get();
        due(text + " throws (1 argument, 2 state)", thrownBy(called, call), want);
        due(text + " again throws (1 argument, 2 state)", thrownBy(called, call), want);
        String got = allThatFollows(called);
        String without = allThatFollows(made.get());
        if (!got.equals(without)) {
            wrong++;
            System.out.println(text + " threw, but then: " + got + ", without it: " + without);
        }
    }

    /** All that can be seen now, and then which numbers come as alarms are set and ring. */
    private static String allThatFollows(AlarmBench bench) {
        StringBuilder text = new StringBuilder();
        text.append(bench.time()).append(' ').append(bench.count(false)).append(' ').append(bench.count(true));
        text.append(' ').append(bench.next()).append(' ').append(bench.told()).append(' ').append(bench.wasDue());
        for (int alarm = 0; alarm < MOST_SEEN; alarm++) {
            int number = alarm;
            if (thrownBy(bench, b -> b.about(number, 0)) == 0) {
                text.append(" [").append(alarm).append(": ").append(bench.about(alarm, 0));
                text.append(' ').append(bench.about(alarm, 1)).append(']');
            }
        }
        text.append(" sets ").append(thrownBy(bench, b -> b.set(0, 5)));
        text.append(" passes ").append(thrownBy(bench, b -> b.pass(MOST_PASS)));
        text.append(" rings");
        for (int call = 0; call <= MOST_SEEN; call++) {
            text.append(' ').append(bench.ring()).append(' ').append(bench.told()).append(' ').append(bench.wasDue());
        }
        return text.append(" left ").append(bench.count(false)).toString();
    }

    /** The alarms 0, 1, 2 .. due in as many ticks as are given, telling 100, 101, 102 .. */
    private static AlarmBench with(int... ahead) {
        AlarmBench bench = new AlarmBench();
        for (int alarm = 0; alarm < ahead.length; alarm++) {
            due("set(" + ahead[alarm] + ")", bench.set(ahead[alarm], 100 + alarm), alarm);
        }
        return bench;
    }

    private static AlarmBench passed(AlarmBench bench, int ticks) {
        due("pass(" + ticks + ")", bench.pass(ticks), ticks);
        return bench;
    }

    /** At time 20: 0 was due at 10, 1 at 5, 2 is due now, 3, 4 and 6 at 50, 5 at the last time; 7 rang. */
    private static AlarmBench busy() {
        AlarmBench bench = with(10, 5, 20, 50, 50, LAST, 50, 3);
        passed(bench, 20);
        due("busy: ring()", bench.ring(), 7);
        return bench;
    }

    /** So many alarms, two due at each time from 0 on, telling their numbers. */
    private static AlarmBench many(int alarms) {
        AlarmBench bench = new AlarmBench();
        for (int alarm = 0; alarm < alarms; alarm++) {
            due("many: set", bench.set(alarm / 2, alarm), alarm);
        }
        return bench;
    }

    private static void dueRings(String text, AlarmBench bench, int... alarms) {
        for (int alarm : alarms) {
            due(text + ": ring()", bench.ring(), alarm);
        }
        due(text + ": ring() behind all", bench.ring(), NONE);
    }

    // Terms: TIME is an int, at first 0 ..
    private static void timeIsAtFirst0() {
        due("at first time()", new AlarmBench().time(), 0);
        due("at first pass(0)", new AlarmBench().pass(0), 0);
        due("at first set(0): due", with(0).about(0, 0), 0);
    }

    // .. that only grows ..
    private static void timeOnlyGrows() {
        AlarmBench bench = new AlarmBench();
        int time = 0;
        for (int ticks = 0; ticks <= MOST_PASS; ticks += 1000) {
            time += ticks;
            due("grows: pass(" + ticks + ")", bench.pass(ticks), time);
            due("grows: time()", bench.time(), time);
        }
        thrownBy(bench, b -> b.pass(-1));
        due("grows: not back", bench.time(), time);
    }

    // There are at most 512 ALARMS, with the numbers 0 .. 511.
    private static void numbersAre0To511() {
        many(512);
    }

    private static void highNumbersAreLikeOthers() {
        due("high: about(509, 0)", many(510).about(509, 0), 254);
        due("high: about(510, 0)", many(511).about(510, 0), 255);
        due("high: about(510, 1)", many(511).about(510, 1), 510);
        due("high: about(511, 0) throws", thrownBy(many(511), b -> b.about(511, 0)), ARGUMENT);
        due("high: shift(510, 9)", many(511).shift(510, 9), 255);
        due("high: stop(510)", many(511).stop(510), 510);
        due("high: ring()", many(511).ring(), 0);
        AlarmBench bench = many(510);
        due("high: stop(509)", bench.stop(509), 509);
        due("high: set takes 509", bench.set(0, 1), 509);
        bench = many(508);
        due("high: shift(507, 0)", bench.shift(507, 0), 253);
        for (int alarm : new int[] {0, 1, 507}) {
            due("high: ring()", bench.ring(), alarm);
        }
    }

    // Alarms get the ranks 1, 2, 3, .. as they are set ..; of the same time by their ranks.
    private static void ranksAreAsSet() {
        dueRings("as set, now", with(0, 0, 0, 0), 0, 1, 2, 3);
        dueRings("as set", passed(with(9, 9, 9, 9), 9), 0, 1, 2, 3);
    }

    // .. or shifted.
    private static void ranksAreAsShifted() {
        AlarmBench bench = with(9, 9, 9);
        due("as shifted: the first, same time", bench.shift(0, 9), 9);
        dueRings("as shifted, the first", passed(bench, 9), 1, 2, 0);

        bench = with(9, 9, 9);
        due("as shifted: the last, same time", bench.shift(2, 9), 9);
        dueRings("as shifted, the last", passed(bench, 9), 0, 1, 2);

        bench = with(9, 4, 9);
        due("as shifted: to the others' time", bench.shift(1, 9), 4);
        dueRings("as shifted, to the others", passed(bench, 9), 0, 2, 1);

        bench = with(9, 9, 9);
        due("as shifted: away", bench.shift(0, 30), 9);
        due("as shifted: and back", bench.shift(0, 9), 30);
        due("as shifted: set behind it", bench.set(9, 1), 3);
        dueRings("as shifted, away and back", passed(bench, 9), 1, 2, 0, 3);
    }

    private static void aNumberUsedAgainHasANewRank() {
        AlarmBench bench = with(9, 9, 9);
        due("used again: stop(0)", bench.stop(0), 100);
        due("used again: set", bench.set(9, 1), 0);
        dueRings("used again, stopped", passed(bench, 9), 1, 2, 0);

        bench = with(0, 9, 9);
        due("used again: ring()", bench.ring(), 0);
        due("used again: set once more", bench.set(9, 1), 0);
        dueRings("used again, rung", passed(bench, 9), 1, 2, 0);
    }

    private static void ranksHoldOverTime() {
        AlarmBench bench = passed(with(9, 9), 4);
        due("over time: set for the same", bench.set(5, 1), 2);
        due("over time: shift(0) to the same", bench.shift(0, 5), 5);
        due("over time: pass", bench.pass(100), 104);
        dueRings("over time", bench, 1, 2, 0);
    }

    // Alarms are ordered by the times when they are due.
    private static void orderIsByDueTimeFirst() {
        dueRings("by due time", passed(with(4, 3, 2, 1, 0), 4), 4, 3, 2, 1, 0);
        dueRings("by due time, far", passed(with(MOST_PASS, 256, 65536, 1, 255, 65535), MOST_PASS), 3, 4, 1, 5, 2, 0);
        AlarmBench bench = passed(with(5, 7), 6);
        due("by due time: set for now", bench.set(0, 1), 2);
        due("by due time: shift(0) to now", bench.shift(0, 0), -1);
        due("by due time: pass on", bench.pass(1), 7);
        dueRings("by due time, before rank", bench, 2, 0, 1);
    }

    private static void dueNoAlarm(String text, Supplier<AlarmBench> made, int alarm) {
        refused(text + ": shift(" + alarm + ", 0)", made, ARGUMENT, b -> b.shift(alarm, 0));
        refused(text + ": stop(" + alarm + ")", made, ARGUMENT, b -> b.stop(alarm));
        refused(text + ": about(" + alarm + ", 0)", made, ARGUMENT, b -> b.about(alarm, 0));
        refused(text + ": about(" + alarm + ", 1)", made, ARGUMENT, b -> b.about(alarm, 1));
    }

    // In all calls illegal argument: there is no such alarm.
    private static void noSuchAlarmNeverSet() {
        for (int alarm : new int[] {NONE, 0, 1, 511, 512}) {
            dueNoAlarm("none is set", AlarmBench::new, alarm);
        }
        dueNoAlarm("one is set", () -> with(5), 1);
    }

    private static void noSuchAlarmOutOfRange() {
        for (int alarm : NEVER_THERE) {
            dueNoAlarm("not there", AlarmBenchEdges::busy, alarm);
        }
    }

    private static void noSuchAlarmAnyMore() {
        dueNoAlarm("it rang", AlarmBenchEdges::busy, 7);
        dueNoAlarm("it is stopped", () -> {
            AlarmBench bench = busy();
            due("stop(3)", bench.stop(3), 103);
            return bench;
        }, 3);
        dueNoAlarm("all such are stopped", () -> {
            AlarmBench bench = busy();
            due("stopAll(100)", bench.stopAll(100), 1);
            return bench;
        }, 0);
    }

    // Of several exceptions the one named first is thrown.
    private static void argumentIsNamedBeforeState() {
        // At time 20, the greatest of these ticks would also lead behind the last time.
        for (int ticks : WRONG_AHEAD) {
            refused("first named: set(" + ticks + ")", AlarmBenchEdges::busy, ARGUMENT, b -> b.set(ticks, 1));
            refused("first named: shift(0, " + ticks + ")", AlarmBenchEdges::busy, ARGUMENT, b -> b.shift(0, ticks));
        }
        for (int ticks : WRONG_PASS) {
            refused("first named: pass(" + ticks + ")", AlarmBenchEdges::busy, ARGUMENT, b -> b.pass(ticks));
        }
        for (int alarm : NEVER_THERE) {
            refused("first named: shift(" + alarm + ", last)", AlarmBenchEdges::busy, ARGUMENT,
                b -> b.shift(alarm, LAST));
            refused("first named: shift(" + alarm + ", -1)", AlarmBenchEdges::busy, ARGUMENT,
                b -> b.shift(alarm, -1));
            refused("first named: about(" + alarm + ", 2)", AlarmBenchEdges::busy, ARGUMENT,
                b -> b.about(alarm, 2));
        }
    }

    // A call that throws changes nothing.
    private static void aThrowChangesNothing() {
        refused("throws: set(-1)", AlarmBenchEdges::busy, ARGUMENT, b -> b.set(-1, 1));
        refused("throws: set(last)", AlarmBenchEdges::busy, STATE, b -> b.set(LAST, 1));
        refused("throws: pass(-1)", AlarmBenchEdges::busy, ARGUMENT, b -> b.pass(-1));
        refused("throws: pass(200001)", AlarmBenchEdges::busy, ARGUMENT, b -> b.pass(MOST_PASS + 1));
        for (int alarm = 0; alarm < 7; alarm++) {
            int number = alarm;
            refused("throws: shift(" + alarm + ", -1)", AlarmBenchEdges::busy, ARGUMENT, b -> b.shift(number, -1));
            refused("throws: shift(" + alarm + ", last)", AlarmBenchEdges::busy, STATE, b -> b.shift(number, LAST));
            refused("throws: about(" + alarm + ", 2)", AlarmBenchEdges::busy, ARGUMENT, b -> b.about(number, 2));
        }
    }

    private static void aThrowKeepsTheOrder() {
        AlarmBench bench = passed(with(9, 9, 9), 3);
        due("order: shift(0, last)", thrownBy(bench, b -> b.shift(0, LAST)), STATE);
        due("order: shift(1, -1)", thrownBy(bench, b -> b.shift(1, -1)), ARGUMENT);
        due("order: set(last)", thrownBy(bench, b -> b.set(LAST, 7)), STATE);
        due("order: stop(3)", thrownBy(bench, b -> b.stop(3)), ARGUMENT);
        due("order: set(6)", bench.set(6, 7), 3);
        due("order: pass(6)", bench.pass(6), 9);
        dueRings("order", bench, 0, 1, 2, 3);
    }

    // Promise 1: Time is 0, there are no alarms.
    private static void aNewObjectHasNoAlarms() {
        AlarmBench bench = new AlarmBench();
        due("new: time()", bench.time(), 0);
        due("new: count(false)", bench.count(false), 0);
        due("new: count(true)", bench.count(true), 0);
        for (int alarm = 0; alarm < 500; alarm++) {
            int number = alarm;
            due("new: about(" + alarm + ", 0) throws", thrownBy(bench, b -> b.about(number, 0)), ARGUMENT);
        }
        due("new: the first number", bench.set(0, 0), 0);
    }

    // Promise 2: Illegal argument: ticks is not 0 .. 1000000000.
    private static void setTakes0And1000000000() {
        AlarmBench bench = with(0, 1, LAST - 1, LAST);
        due("set(0): due", bench.about(0, 0), 0);
        due("set(1): due", bench.about(1, 0), 1);
        due("set(999999999): due", bench.about(2, 0), LAST - 1);
        due("set(1000000000): due", bench.about(3, 0), LAST);
        due("set: ready at once", bench.count(true), 1);
    }

    private static void setRefusesOtherTicks() {
        for (int ticks : WRONG_AHEAD) {
            refused("new: set(" + ticks + ")", AlarmBench::new, ARGUMENT, b -> b.set(ticks, 1));
            refused("set(" + ticks + ")", AlarmBenchEdges::busy, ARGUMENT, b -> b.set(ticks, 1));
        }
    }

    // .. something that it TELLS, an int
    private static void setTellsAnyInt() {
        AlarmBench bench = new AlarmBench();
        for (int place = 0; place < ANY_INT.length; place++) {
            due("set(1, " + ANY_INT[place] + ")", bench.set(1, ANY_INT[place]), place);
        }
        for (int place = 0; place < ANY_INT.length; place++) {
            due("about(" + place + ", 1)", bench.about(place, 1), ANY_INT[place]);
        }
    }

    // .. its number, the least that no other one has.
    private static void setGivesTheLeastFreeNumber() {
        AlarmBench bench = with(9, 9, 9, 9, 9);
        due("least: stop(3)", bench.stop(3), 103);
        due("least: stop(1)", bench.stop(1), 101);
        due("least: not the last stopped, but the least", bench.set(9, 1), 1);
        due("least: stop(0)", bench.stop(0), 100);
        due("least: a lesser one", bench.set(9, 1), 0);
        due("least: then the gap", bench.set(9, 1), 3);
        due("least: then behind all", bench.set(9, 1), 5);
        due("least: stopAll(1)", bench.stopAll(1), 4);
        for (int number : new int[] {0, 1, 3, 5, 6}) {
            due("least: behind stopAll", bench.set(0, 1), number);
        }
    }

    // Illegal state: .. or it would be due behind 1000000000.
    private static void setRefusesBehind1000000000() {
        Supplier<AlarmBench> at20 = AlarmBenchEdges::busy;
        refused("behind: set(last - 19)", at20, STATE, b -> b.set(LAST - 19, 1));
        refused("behind: set(last - 1)", at20, STATE, b -> b.set(LAST - 1, 1));
        refused("behind: set(last)", at20, STATE, b -> b.set(LAST, 1));
        AlarmBench bench = busy();
        due("behind: set(last - 20)", bench.set(LAST - 20, 1), 7);
        due("behind: due at the last time", bench.about(7, 0), LAST);
    }

    // Promise 3: Illegal argument: also if ticks is not 0 .. 1000000000.
    private static void shiftTakes0And1000000000() {
        AlarmBench bench = with(6, 6);
        due("shift(0, last)", bench.shift(0, LAST), 6);
        due("shift(0, last): due", bench.about(0, 0), LAST);
        due("shift(0, 0)", bench.shift(0, 0), LAST);
        due("shift(0, 0): due", bench.about(0, 0), 0);
        due("shift(0, 1)", bench.shift(0, 1), 0);
        due("shift(0, 1): due", bench.about(0, 0), 1);
        due("shift: tells the same", bench.about(0, 1), 100);
        due("shift: the other one", bench.about(1, 0), 6);
    }

    // .. in how many it was due ..
    private static void shiftTellsInHowManyItWasDue() {
        AlarmBench bench = passed(with(6, 6, 6), 5);
        due("in how many: 1", bench.shift(0, 4), 1);
        due("in how many: 4", bench.shift(0, 4), 4);
        due("in how many: pass", bench.pass(1), 6);
        due("in how many: 0, it is due now", bench.shift(1, 1), 0);
    }

    // .. below 0 if it was due before now.
    private static void shiftTellsBelow0() {
        AlarmBench bench = passed(with(6, 0), 7);
        due("below 0: 1 before", bench.shift(0, 0), -1);
        due("below 0: 7 before", bench.shift(1, 0), -7);
        due("below 0: now", bench.shift(1, 0), 0);
    }

    private static void shiftTellsFarBelow0() {
        AlarmBench bench = with(0);
        for (int call = 1; call <= 510; call++) {
            due("far below 0: pass", bench.pass(MOST_PASS), call * MOST_PASS);
        }
        due("far below 0", bench.shift(0, LAST - 510 * MOST_PASS), -510 * MOST_PASS);
    }

    private static void shiftRefusesOtherTicks() {
        for (int ticks : WRONG_AHEAD) {
            refused("shift(0, " + ticks + ")", () -> with(6, 6), ARGUMENT, b -> b.shift(0, ticks));
            refused("ready: shift(2, " + ticks + ")", AlarmBenchEdges::busy, ARGUMENT, b -> b.shift(2, ticks));
        }
    }

    // Illegal state: it would be due behind 1000000000.
    private static void shiftRefusesBehind1000000000() {
        for (int alarm = 0; alarm < 7; alarm++) {
            int number = alarm;
            refused("behind: shift(" + alarm + ", last - 19)", AlarmBenchEdges::busy, STATE,
                b -> b.shift(number, LAST - 19));
            refused("behind: shift(" + alarm + ", last)", AlarmBenchEdges::busy, STATE, b -> b.shift(number, LAST));
            AlarmBench bench = busy();
            int was = bench.about(alarm, 0) - 20;
            due("behind: shift(" + alarm + ", last - 20)", bench.shift(alarm, LAST - 20), was);
            due("behind: due at the last time", bench.about(alarm, 0), LAST);
        }
    }

    private static void shiftOfOneThatWasDue() {
        AlarmBench bench = passed(with(6, 7), 9);
        due("was due: shift(0, 1)", bench.shift(0, 1), -3);
        due("was due: count(true)", bench.count(true), 1);
        due("was due: next()", bench.next(), 7);
        dueRings("was due, then not", bench, 1);
        due("was due: pass", bench.pass(1), 10);
        dueRings("was due, then again", bench, 0);
        due("was due: wasDue()", bench.wasDue(), 10);
    }

    // Promise 4: Stops an alarm: there is none with its number then ..
    private static void stopLeavesNoneWithItsNumber() {
        AlarmBench bench = with(0, 0, 0);
        due("stop(1)", bench.stop(1), 101);
        due("stop(1) again throws", thrownBy(bench, b -> b.stop(1)), ARGUMENT);
        due("stop: count", bench.count(false), 2);
        due("stop: ready", bench.count(true), 2);
        dueRings("stop", bench, 0, 2);
        due("stop: one that rang throws", thrownBy(bench, b -> b.stop(2)), ARGUMENT);
        due("stop: next()", bench.next(), NONE);
    }

    // .. what it tells.
    private static void stopTellsAnyInt() {
        AlarmBench bench = new AlarmBench();
        for (int tells : ANY_INT) {
            due("stop: set", bench.set(3, tells), 0);
            due("stop: tells", bench.stop(0), tells);
        }
        due("stop: told() is ring()'s", bench.told(), 0);
        due("stop: wasDue() is ring()'s", bench.wasDue(), NONE);
    }

    private static void stopOfOneThatIsReady() {
        AlarmBench bench = passed(with(3, 5, 8), 5);
        due("ready: stop(0), was due", bench.stop(0), 100);
        due("ready: stop(1), is due", bench.stop(1), 101);
        due("ready: none", bench.count(true), 0);
        dueRings("ready, stopped", bench);
        due("ready: next()", bench.next(), 8);
    }

    // Promise 5: Stops all alarms that tell something: how many.
    private static void stopAllOfNone() {
        for (int tells : ANY_INT) {
            due("none: stopAll(" + tells + ")", new AlarmBench().stopAll(tells), 0);
            AlarmBench bench = with(5, 6);
            due("none of two: stopAll(" + tells + ")", bench.stopAll(tells), 0);
            due("none of two: count", bench.count(false), 2);
        }
    }

    private static void stopAllLooksAtAlarmsAlone() {
        AlarmBench bench = with(0, 9, 9);
        due("alone: ring()", bench.ring(), 0);
        due("alone: stop(1)", bench.stop(1), 101);
        due("alone: one that rang", bench.stopAll(100), 0);
        due("alone: one that is stopped", bench.stopAll(101), 0);
        due("alone: no number", bench.stopAll(2), 0);
        due("alone: no due time", bench.stopAll(9), 0);
        due("alone: told() stays", bench.told(), 100);
        due("alone: wasDue() stays", bench.wasDue(), 0);
        due("alone: one is left", bench.stopAll(102), 1);
        due("alone: none is left", bench.stopAll(102), 0);
    }

    private static void stopAllTakesReadyAndAhead() {
        AlarmBench bench = new AlarmBench();
        int[] tells = {-1, 0, -1, 0, -1, 0};
        for (int alarm = 0; alarm < tells.length; alarm++) {
            due("both: set", bench.set(alarm, tells[alarm]), alarm);
        }
        due("both: pass", bench.pass(3), 3);
        due("both: stopAll(-1)", bench.stopAll(-1), 3);
        due("both: ready", bench.count(true), 2);
        due("both: all", bench.count(false), 3);
        dueRings("both", bench, 1, 3);
        due("both: stopAll(0)", bench.stopAll(0), 1);
        due("both: next()", bench.next(), NONE);
    }

    private static void stopAllOfAll() {
        AlarmBench bench = new AlarmBench();
        for (int alarm = 0; alarm < 511; alarm++) {
            due("all: set", bench.set(alarm, LEAST_INT), alarm);
        }
        due("all: stopAll", bench.stopAll(LEAST_INT), 511);

        bench = new AlarmBench();
        for (int alarm = 0; alarm < 250; alarm++) {
            due("all: set some", bench.set(alarm, MOST_INT), alarm);
        }
        due("all: stopAll some", bench.stopAll(MOST_INT), 250);
        due("all: count", bench.count(false), 0);
        for (int alarm = 0; alarm < 250; alarm++) {
            due("all: set again", bench.set(alarm, MOST_INT), alarm);
        }
    }

    // Promise 6: Illegal argument: ticks is not 0 .. 200000.
    private static void passTakes0And200000() {
        AlarmBench bench = new AlarmBench();
        due("pass(0)", bench.pass(0), 0);
        due("pass(200000)", bench.pass(MOST_PASS), MOST_PASS);
        due("pass(0), later", bench.pass(0), MOST_PASS);
        due("pass(199999)", bench.pass(MOST_PASS - 1), 2 * MOST_PASS - 1);
        due("pass(1)", bench.pass(1), 2 * MOST_PASS);
    }

    private static void passRefusesOtherTicks() {
        for (int ticks : WRONG_PASS) {
            refused("new: pass(" + ticks + ")", AlarmBench::new, ARGUMENT, b -> b.pass(ticks));
            refused("pass(" + ticks + ")", AlarmBenchEdges::busy, ARGUMENT, b -> b.pass(ticks));
        }
    }

    // Promise 7: NONE if there is none.
    private static void ringIsNoneIfThereIsNone() {
        AlarmBench bench = new AlarmBench();
        dueRings("new", bench);
        dueRings("new, later", passed(bench, MOST_PASS));
        AlarmBench empty = with(0);
        due("empty: stop(0)", empty.stop(0), 100);
        dueRings("empty", empty);
    }

    private static void ringIsNoneIfNoneIsDue() {
        AlarmBench bench = with(2, LAST);
        dueRings("ahead", bench);
        dueRings("one tick before", passed(bench, 1));
        due("ahead: both are there", bench.count(false), 2);
        due("ahead: next() stays", bench.next(), 2);
    }

    // .. that is due now ..
    private static void ringTakesOneThatIsDueNow() {
        dueRings("now, at time 0", with(0, 1), 0);
        dueRings("now", passed(with(7, 8), 7), 0);
    }

    // .. or was before.
    private static void ringTakesOneThatWasDueBefore() {
        dueRings("one tick late", passed(with(7, 9), 8), 0);
        dueRings("far late", passed(with(MOST_PASS + 1, MOST_PASS, 0), MOST_PASS), 2, 1);
        dueRings("now and before", passed(with(9, 8, 9, 8), 9), 1, 3, 0, 2);
    }

    // .. and none comes twice or never.
    private static void ringTakesEachOnce() {
        AlarmBench bench = new AlarmBench();
        int[] inOrder = new int[255];
        for (int alarm = 0; alarm < 255; alarm++) {
            int place = alarm * 7919 % 255;
            inOrder[place] = alarm;
            due("once: set", bench.set(place * 784, alarm), alarm);
        }
        due("once: pass", bench.pass(MOST_PASS), MOST_PASS);
        // With the last ring() these are 512 calls.
        dueRings("once", bench, inOrder);
    }

    // .. its number, which no alarm has then.
    private static void ringFreesTheNumber() {
        AlarmBench bench = with(0, 0, 5);
        due("free: ring()", bench.ring(), 0);
        due("free: about(0, 0) throws", thrownBy(bench, b -> b.about(0, 0)), ARGUMENT);
        due("free: shift(0, 0) throws", thrownBy(bench, b -> b.shift(0, 0)), ARGUMENT);
        due("free: stop(0) throws", thrownBy(bench, b -> b.stop(0)), ARGUMENT);
        due("free: count(false)", bench.count(false), 2);
        due("free: the number is the least", bench.set(0, 1), 0);
        dueRings("free", bench, 1, 0);
    }

    // Promise 8: 0 if there was none.
    private static void toldIs0IfThereWasNone() {
        AlarmBench bench = with(0, 5);
        due("none yet: told()", new AlarmBench().told(), 0);
        due("none rung: told()", bench.told(), 0);
        due("none rung: stop(0)", bench.stop(0), 100);
        due("none rung: ring()", bench.ring(), NONE);
        due("none rung: stopAll(101)", bench.stopAll(101), 1);
        due("none rung: ring() again", bench.ring(), NONE);
        due("none rung: told() still", bench.told(), 0);
    }

    private static void toldStaysIfRingTakesNone() {
        AlarmBench bench = with(0, 5);
        due("stays: ring()", bench.ring(), 0);
        dueRings("stays", bench);
        due("stays: told()", bench.told(), 100);
        due("stays: told() again", bench.told(), 100);
        due("stays: set", bench.set(9, 7), 0);
        due("stays: pass", bench.pass(5), 5);
        due("stays: stop(1)", bench.stop(1), 101);
        thrownBy(bench, b -> b.stop(1));
        due("stays: told() behind others", bench.told(), 100);
    }

    private static void toldOfAnyInt() {
        AlarmBench bench = new AlarmBench();
        for (int tells : ANY_INT) {
            due("any: set", bench.set(0, tells), 0);
            due("any: ring()", bench.ring(), 0);
            due("any: told()", bench.told(), tells);
        }
    }

    // Promise 9: NONE if there was none.
    private static void wasDueIsNoneIfThereWasNone() {
        AlarmBench bench = with(0, 5);
        due("none yet: wasDue()", new AlarmBench().wasDue(), NONE);
        due("none rung: wasDue()", bench.wasDue(), NONE);
        due("none rung: stop(0)", bench.stop(0), 100);
        due("none rung: ring()", bench.ring(), NONE);
        due("none rung: wasDue() still", bench.wasDue(), NONE);
    }

    private static void wasDueStaysIfRingTakesNone() {
        AlarmBench bench = passed(with(4, 15), 9);
        due("stays: ring()", bench.ring(), 0);
        dueRings("stays", bench);
        due("stays: wasDue()", bench.wasDue(), 4);
        due("stays: set", bench.set(0, 7), 0);
        due("stays: shift(0, 1)", bench.shift(0, 1), 0);
        due("stays: wasDue() behind others", bench.wasDue(), 4);
    }

    // When that was due.
    private static void wasDueOf0AndLater() {
        AlarmBench bench = passed(with(0, MOST_PASS), MOST_PASS);
        due("when: ring()", bench.ring(), 0);
        due("when: wasDue() of time 0", bench.wasDue(), 0);
        due("when: ring() again", bench.ring(), 1);
        due("when: wasDue() of now", bench.wasDue(), MOST_PASS);
    }

    // Promise 10: NONE if there is none.
    private static void nextIsNoneIfThereIsNone() {
        due("new: next()", new AlarmBench().next(), NONE);
        AlarmBench rung = with(0);
        due("rung: ring()", rung.ring(), 0);
        due("rung: next()", rung.next(), NONE);
        AlarmBench stopped = with(4);
        due("stopped: stop(0)", stopped.stop(0), 100);
        due("stopped: next()", stopped.next(), NONE);
        AlarmBench all = with(4);
        due("all stopped: stopAll(100)", all.stopAll(100), 1);
        due("all stopped: next()", all.next(), NONE);
    }

    // When the first alarm, by the order, is due.
    private static void nextIsAnyTime() {
        due("next() of time 0", with(0).next(), 0);
        due("next() of the last time", with(LAST).next(), LAST);
        due("next() of the lesser", with(LAST, LAST - 1).next(), LAST - 1);
        due("next() of the past", passed(with(8, 3, 20), 9).next(), 3);
        due("next() of time 0, later", passed(with(5, 0), MOST_PASS).next(), 0);
    }

    // Promise 11: (what = 0), .. (1).
    private static void aboutTakes0And1() {
        AlarmBench bench = passed(with(0, LAST, 9), 9);
        due("about(0, 0)", bench.about(0, 0), 0);
        due("about(1, 0)", bench.about(1, 0), LAST);
        due("about(2, 0)", bench.about(2, 0), 9);
        due("about(0, 1)", bench.about(0, 1), 100);
        due("about(1, 1)", bench.about(1, 1), 101);
        due("about(2, 1)", bench.about(2, 1), 102);
    }

    // Illegal argument: also if what is none of these.
    private static void aboutRefusesOtherWhats() {
        for (int what : WRONG_WHAT) {
            for (int alarm = 0; alarm < 8; alarm++) {
                int number = alarm;
                refused("about(" + alarm + ", " + what + ")", AlarmBenchEdges::busy, ARGUMENT,
                    b -> b.about(number, what));
            }
        }
    }

    // Promise 12: How many alarms are due now or were before (ready), or how many there are in all.
    private static void countIs0IfThereIsNone() {
        AlarmBench bench = with(0);
        due("ring()", bench.ring(), 0);
        due("none: count(true)", bench.count(true), 0);
        due("none: count(false)", bench.count(false), 0);
        due("none ready: count(true)", with(1, LAST).count(true), 0);
    }

    private static void countOfReadyAtTheEdge() {
        due("one tick before: count(true)", passed(with(6, 7, 8), 5).count(true), 0);
        due("now: count(true)", passed(with(6, 7, 8), 6).count(true), 1);
        due("now and before: count(true)", passed(with(6, 7, 8), 7).count(true), 2);
        due("before: count(true)", passed(with(6, 7, 8), 9).count(true), 3);
        due("before: count(false)", passed(with(6, 7, 8), 9).count(false), 3);
        due("at time 0: count(true)", with(0, 1, 0).count(true), 2);
    }

    private static void countOfMany() {
        due("count(false) of 511", many(511).count(false), 511);
        due("count(true) of 511, at first", many(511).count(true), 2);
        due("count(true) of 510, later", passed(many(510), 200).count(true), 402);
        due("count(true) of 510, all", passed(many(510), 254).count(true), 510);
    }

    // Promise 13: The time.
    private static void timeIsAsPassed() {
        AlarmBench bench = busy();
        due("time()", bench.time(), 20);
        due("time: ring()", bench.ring(), 1);
        due("time: next()", bench.next(), 10);
        due("time: shift(5, 0)", bench.shift(5, 0), LAST - 20);
        due("time: set", bench.set(30, 1), 1);
        due("time: stop(6)", bench.stop(6), 106);
        thrownBy(bench, b -> b.pass(MOST_PASS + 1));
        due("time: other calls leave it", bench.time(), 20);
        due("time: pass(0)", bench.pass(0), 20);
        due("time: pass(0) leaves it", bench.time(), 20);
    }
}
