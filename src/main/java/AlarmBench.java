/**
 * Alarms that are set for some time ahead, shifted and stopped; as time passes, however far at once,
 * they come one by one in their order, and none comes twice or never.
 */
public final class AlarmBench {
    public static final int NONE = -1;

    private static final int MOST_ALARMS = 512;
    private static final int LAST_TIME = 1000000000;
    private static final int MOST_TICKS_AHEAD = 1000000000;
    private static final int MOST_TICKS_PASSING = 200000;
    private static final int ABOUT_DUE = 0;
    private static final int ABOUT_TELLS = 1;

    // One row each, by the alarm's number; the other rows count only where isSet is true.
    private final boolean[] isSet;
    private final int[] dueAt;
    private final int[] telling;
    private final int[] rank;

    private int now;
    private int lastRank;
    private int rungTold;
    private int rungDue;

    public AlarmBench() {
        isSet = new boolean[MOST_ALARMS];
        dueAt = new int[MOST_ALARMS];
        telling = new int[MOST_ALARMS];
        rank = new int[MOST_ALARMS];
        now = 0;
        lastRank = 0;
        rungTold = 0;
        rungDue = NONE;
    }

    public int set(int ticks, int tells) throws IllegalArgumentException, IllegalStateException {
        if (!canBeAhead(ticks)) {
            throw new IllegalArgumentException("ticks is not 0 .. 1000000000");
        }
        int alarm = leastFree();
        if (alarm == NONE) {
            throw new IllegalStateException("there are 512 alarms");
        }
        if (isBehindLastTime(ticks)) {
            throw new IllegalStateException("it would be due behind 1000000000");
        }
        isSet[alarm] = true;
        telling[alarm] = tells;
        putAhead(alarm, ticks);
        return alarm;
    }

    public int shift(int alarm, int ticks) throws IllegalArgumentException, IllegalStateException {
        if (!exists(alarm)) {
            throw new IllegalArgumentException("there is no such alarm");
        }
        if (!canBeAhead(ticks)) {
            throw new IllegalArgumentException("ticks is not 0 .. 1000000000");
        }
        if (isBehindLastTime(ticks)) {
            throw new IllegalStateException("it would be due behind 1000000000");
        }
        int ahead = dueAt[alarm] - now;
        putAhead(alarm, ticks);
        return ahead;
    }

    public int stop(int alarm) throws IllegalArgumentException {
        if (!exists(alarm)) {
            throw new IllegalArgumentException("there is no such alarm");
        }
        isSet[alarm] = false;
        return telling[alarm];
    }

    public int stopAll(int tells) {
        int stopped = 0;
        for (int alarm = 0; alarm < MOST_ALARMS; alarm++) {
            if (isSet[alarm] && telling[alarm] == tells) {
                isSet[alarm] = false;
                stopped++;
            }
        }
        return stopped;
    }

    public int pass(int ticks) throws IllegalArgumentException, IllegalStateException {
        if (ticks < 0 || ticks > MOST_TICKS_PASSING) {
            throw new IllegalArgumentException("ticks is not 0 .. 200000");
        }
        if (isBehindLastTime(ticks)) {
            throw new IllegalStateException("the time would be behind 1000000000");
        }
        now += ticks;
        return now;
    }

    public int ring() {
        int alarm = first();
        if (alarm == NONE || !isReady(alarm)) {
            return NONE;
        }
        isSet[alarm] = false;
        rungTold = telling[alarm];
        rungDue = dueAt[alarm];
        return alarm;
    }

    public int told() {
        return rungTold;
    }

    public int wasDue() {
        return rungDue;
    }

    public int next() {
        int alarm = first();
        return alarm == NONE ? NONE : dueAt[alarm];
    }

    public int about(int alarm, int what) throws IllegalArgumentException {
        if (!exists(alarm)) {
            throw new IllegalArgumentException("there is no such alarm");
        }
        if (what != ABOUT_DUE && what != ABOUT_TELLS) {
            throw new IllegalArgumentException("what is not 0 or 1");
        }
        return what == ABOUT_DUE ? dueAt[alarm] : telling[alarm];
    }

    public int count(boolean ready) {
        int counted = 0;
        for (int alarm = 0; alarm < MOST_ALARMS; alarm++) {
            if (isSet[alarm] && (!ready || isReady(alarm))) {
                counted++;
            }
        }
        return counted;
    }

    public int time() {
        return now;
    }

    private boolean exists(int alarm) {
        return alarm >= 0 && alarm < MOST_ALARMS && isSet[alarm];
    }

    private boolean isReady(int alarm) {
        return dueAt[alarm] <= now;
    }

    private static boolean canBeAhead(int ticks) {
        return ticks >= 0 && ticks <= MOST_TICKS_AHEAD;
    }

    // Asked only of ticks that are known to be in range: the difference cannot wrap then.
    private boolean isBehindLastTime(int ticks) {
        return ticks > LAST_TIME - now;
    }

    private void putAhead(int alarm, int ticks) {
        dueAt[alarm] = now + ticks;
        lastRank++;
        rank[alarm] = lastRank;
    }

    private int leastFree() {
        for (int alarm = 0; alarm < MOST_ALARMS; alarm++) {
            if (!isSet[alarm]) {
                return alarm;
            }
        }
        return NONE;
    }

    private int first() {
        int found = NONE;
        for (int alarm = 0; alarm < MOST_ALARMS; alarm++) {
            if (isSet[alarm] && (found == NONE || isBefore(alarm, found))) {
                found = alarm;
            }
        }
        return found;
    }

    private boolean isBefore(int one, int other) {
        if (dueAt[one] != dueAt[other]) {
            return dueAt[one] < dueAt[other];
        }
        return rank[one] < rank[other];
    }
}
