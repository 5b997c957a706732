/**
 * One run of calls on a new room, told for one sentence of the document: each call with the answer that is due, and
 * after it what the room is due to be like.
 */
final class Trial {
    static final int BAD = -2, NONE = -1, NOT_THERE = -11, NO_PLACE = -12, BY_NOTHING = -13;
    static final int MIN = Integer.MIN_VALUE, MAX = Integer.MAX_VALUE;

    /** Nothing is promised about an object behind this many calls, so a test that makes more is wrong itself. */
    private static final int MOST_CALLS = 512;
    private static final int DESKS = 8, PLACES = 8, TOLD = 8;

    private final Checks checks;
    private final String sentence;
    private final CountRoom room = new CountRoom();
    private int calls = 0;
    private long[] ready;

    Trial(Checks checks, String sentence) {
        this.checks = checks;
        this.sentence = sentence;
    }

    private Trial due(String call, long got, long want) {
        calls++;
        checks.due("[" + sentence + "] " + call, got, want);
        if (calls > MOST_CALLS) {
            checks.holds("[" + sentence + "] makes at most " + MOST_CALLS + " calls", false);
        }
        return this;
    }

    Trial open(int desk, int size, long want) {
        return due("open(" + desk + ", " + size + ")", room.open(desk, size), want);
    }

    Trial close(int desk, long want) {
        return due("close(" + desk + ")", room.close(desk), want);
    }

    Trial write(int desk, int place, int v, long want) {
        return due("write(" + desk + ", " + place + ", " + v + ")", room.write(desk, place, v), want);
    }

    Trial share(int a, int b, int place, long want) {
        return due("share(" + a + ", " + b + ", " + place + ")", room.share(a, b, place), want);
    }

    Trial spread(int a, int b, long want) {
        return due("spread(" + a + ", " + b + ")", room.spread(a, b), want);
    }

    Trial climb(int desk, int n, long want) {
        return due("climb(" + desk + ", " + n + ")", room.climb(desk, n), want);
    }

    Trial find(int v, long want) {
        return due("find(" + v + ")", room.find(v), want);
    }

    Trial rounds(int n, boolean passes, long want) {
        return due("rounds(" + n + ", " + passes + ")", room.rounds(n, passes), want);
    }

    Trial bring(int desk, boolean keeps, long want) {
        return due("bring(" + desk + ", " + keeps + ")", room.bring(desk, keeps), want);
    }

    Trial number(int desk, int place, long want) {
        return due("number(" + desk + ", " + place + ")", room.number(desk, place), want);
    }

    Trial told(int what, long want) {
        return due("told(" + what + ")", room.told(what), want);
    }

    Trial asked(long want) {
        return told(0, want);
    }

    Trial deepest(long want) {
        return told(4, want);
    }

    Trial hand(long want) {
        return told(5, want);
    }

    Trial there(long want) {
        return told(6, want);
    }

    Trial sum(long want) {
        return told(7, want);
    }

    /** A desk whose slate has these numbers. */
    Trial desk(int desk, int... numbers) {
        open(desk, numbers.length, 1);
        for (int place = 0; place < numbers.length; place++) {
            write(desk, place, numbers[place], 1);
        }
        return this;
    }

    /** Desks with one number each, from this one on. */
    Trial desksFrom(int first, int... numbers) {
        for (int i = 0; i < numbers.length; i++) {
            desk(first + i, numbers[i]);
        }
        return this;
    }

    /** That a desk's slate has these numbers and no more; none: the desk is not there. */
    Trial slate(int desk, int... numbers) {
        for (int place = 0; place < numbers.length; place++) {
            number(desk, place, numbers[place]);
        }
        return number(desk, numbers.length, Checks.LEAST);
    }

    /** Ends what is made ready: counts and same compare with the room as it is here. */
    Trial ready() {
        ready = state();
        return this;
    }

    /** How much ASKED, HELD and BROKEN are more since ready; between calls DEPTH is always 0. */
    Trial counts(long asked, long held, long broken) {
        told(0, ready[0] + asked);
        told(1, ready[1] + held);
        told(2, ready[2] + broken);
        return told(3, 0);
    }

    /** That all that can be seen of the room is as it was at ready. */
    Trial same() {
        return sameFrom(0);
    }

    /** The same but for what told tells: the slates alone. */
    Trial sameSlates() {
        return sameFrom(TOLD);
    }

    private Trial sameFrom(int first) {
        long[] now = state();
        for (int i = first; i < now.length; i++) {
            checks.due("[" + sentence + "] as it was: " + seenBy(i), now[i], ready[i]);
        }
        return this;
    }

    /** What told answers, from 0 on, and behind that the slates, a row of eight for each desk. */
    private long[] state() {
        long[] state = new long[TOLD + DESKS * PLACES];
        for (int i = 0; i < state.length; i++) {
            state[i] = i < TOLD ? room.told(i) : room.number(deskOf(i), placeOf(i));
        }
        calls += state.length;
        return state;
    }

    private static String seenBy(int i) {
        return i < TOLD ? "told(" + i + ")" : "number(" + deskOf(i) + ", " + placeOf(i) + ")";
    }

    private static int deskOf(int i) {
        return (i - TOLD) / PLACES;
    }

    private static int placeOf(int i) {
        return (i - TOLD) % PLACES;
    }
}
