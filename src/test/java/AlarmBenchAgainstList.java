import java.util.ArrayList;
import java.util.List;
import java.util.Random;

/**
 * Long runs of calls, always the same ones, on a bench and on a plain list that is kept in the alarms' order:
 * a new alarm goes behind all that are due no later, so the list needs no ranks.
 */
public final class AlarmBenchAgainstList {
    private static final int RUNS = 3000;
    private static final int CALLS = 512;
    private static final long ARGUMENT = Long.MIN_VALUE;
    private static final long STATE = Long.MIN_VALUE + 1;
    private static final long LAST = 1000000000;

    private static final class Alarm {
        int number;
        long due;
        int tells;
    }

    private static final class Plain {
        final List<Alarm> inOrder = new ArrayList<>();
        long time = 0;
        long told = 0;
        long wasDue = -1;

        Alarm find(int number) {
            for (Alarm alarm : inOrder) {
                if (alarm.number == number) {
                    return alarm;
                }
            }
            return null;
        }

        void insert(Alarm alarm) {
            int place = inOrder.size();
            while (place > 0 && inOrder.get(place - 1).due > alarm.due) {
                place--;
            }
            inOrder.add(place, alarm);
        }

        long set(int ticks, int tells) {
            if (ticks < 0 || ticks > LAST) {
                return ARGUMENT;
            }
            if (inOrder.size() == 512 || time + ticks > LAST) {
                return STATE;
            }
            Alarm alarm = new Alarm();
            while (find(alarm.number) != null) {
                alarm.number++;
            }
            alarm.due = time + ticks;
            alarm.tells = tells;
            insert(alarm);
            return alarm.number;
        }

        long shift(int number, int ticks) {
            Alarm alarm = find(number);
            if (alarm == null || ticks < 0 || ticks > LAST) {
                return ARGUMENT;
            }
            if (time + ticks > LAST) {
                return STATE;
            }
            long was = alarm.due - time;
            inOrder.remove(alarm);
            alarm.due = time + ticks;
            insert(alarm);
            return was;
        }

        long stop(int number) {
            Alarm alarm = find(number);
            if (alarm == null) {
                return ARGUMENT;
            }
            inOrder.remove(alarm);
            return alarm.tells;
        }

        long stopAll(int tells) {
            int before = inOrder.size();
            inOrder.removeIf(alarm -> alarm.tells == tells);
            return before - inOrder.size();
        }

        long pass(int ticks) {
            if (ticks < 0 || ticks > 200000) {
                return ARGUMENT;
            }
            if (time + ticks > LAST) {
                return STATE;
            }
            time += ticks;
            return time;
        }

        long ring() {
            if (inOrder.isEmpty() || inOrder.get(0).due > time) {
                return -1;
            }
            Alarm alarm = inOrder.remove(0);
            told = alarm.tells;
            wasDue = alarm.due;
            return alarm.number;
        }

        long next() {
            return inOrder.isEmpty() ? -1 : inOrder.get(0).due;
        }

        long about(int number, int what) {
            Alarm alarm = find(number);
            if (alarm == null || what < 0 || what > 1) {
                return ARGUMENT;
            }
            return what == 0 ? alarm.due : alarm.tells;
        }

        long count(boolean ready) {
            return inOrder.stream().filter(alarm -> !ready || alarm.due <= time).count();
        }
    }

    private final Random random;
    private final AlarmBench bench = new AlarmBench();
    private final Plain plain = new Plain();
    private final int span;
    private final int settingWeight;

    private AlarmBenchAgainstList(int run) {
        random = new Random(run);
        span = new int[] {2, 6, 64, 5000, 300000}[run % 5];
        settingWeight = 2 + run % 7 * 4;
    }

    public static void main(String[] args) {
        int wrong = 0;
        for (int run = 0; run < RUNS; run++) {
            wrong += new AlarmBenchAgainstList(run).differs(run) ? 1 : 0;
        }
        System.out.println(wrong == 0 ? "all answers are as due" : wrong + " runs are not as due");
        if (wrong != 0) {
            System.exit(1);
        }
    }

    private boolean differs(int run) {
        for (int call = 1; call <= CALLS; call++) {
            int kind = Math.max(0, random.nextInt(14 + settingWeight) - settingWeight);
            int one = firstFor(kind);
            int two = secondFor(kind);
            long want = ofPlain(kind, one, two);
            long got = ofBench(kind, one, two);
            if (got != want) {
                System.out.println("run " + run + ", call " + call + ": kind " + kind + " (" + one + ", " + two
                    + ") answered " + got + ", due is " + want);
                return true;
            }
        }
        return false;
    }

    private int firstFor(int kind) {
        switch (kind) {
            case 0: case 13: return ahead();
            case 3: return passing();
            case 4: return tells();
            default: return number();
        }
    }

    private int secondFor(int kind) {
        switch (kind) {
            case 0: case 13: return tells();
            case 1: return ahead();
            default: return random.nextInt(8) == 0 ? random.nextInt(5) - 2 : random.nextInt(2);
        }
    }

    private int ahead() {
        switch (random.nextInt(40)) {
            case 0: return -1 - random.nextInt(3);
            case 1: return (int) LAST + random.nextInt(3) - 1;
            case 2: return (int) (LAST - plain.time) + random.nextInt(3) - 1;
            case 3: return random.nextInt();
            default: return random.nextInt(span);
        }
    }

    private int passing() {
        switch (random.nextInt(20)) {
            case 0: return -1 - random.nextInt(3);
            case 1: return 199999 + random.nextInt(3);
            case 2: return random.nextInt();
            default: return random.nextInt(Math.min(span, 200001));
        }
    }

    private int tells() {
        return random.nextInt(8) == 0 ? random.nextInt() : random.nextInt(20) - 3;
    }

    private int number() {
        int there = plain.inOrder.size();
        if (there > 0 && random.nextInt(6) != 0) {
            return plain.inOrder.get(random.nextInt(there)).number;
        }
        return random.nextInt(6) == 0 ? random.nextInt() : random.nextInt(520) - 4;
    }

    private long ofPlain(int kind, int one, int two) {
        switch (kind) {
            case 1: return plain.shift(one, two);
            case 2: return plain.stop(one);
            case 3: return plain.pass(one);
            case 4: return plain.stopAll(one);
            case 5: case 6: return plain.ring();
            case 7: return plain.told;
            case 8: return plain.wasDue;
            case 9: return plain.next();
            case 10: return plain.about(one, two);
            case 11: return plain.count(two == 1);
            case 12: return plain.time;
            default: return plain.set(one, two);
        }
    }

    private long ofBench(int kind, int one, int two) {
        try {
            switch (kind) {
                case 1: return bench.shift(one, two);
                case 2: return bench.stop(one);
                case 3: return bench.pass(one);
                case 4: return bench.stopAll(one);
                case 5: case 6: return bench.ring();
                case 7: return bench.told();
                case 8: return bench.wasDue();
                case 9: return bench.next();
                case 10: return bench.about(one, two);
                case 11: return bench.count(two == 1);
                case 12: return bench.time();
                default: return bench.set(one, two);
            }
        } catch (IllegalArgumentException e) {
            return ARGUMENT;
        } catch (IllegalStateException e) {
            return STATE;
        }
    }
}
