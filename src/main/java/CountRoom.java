/** A room of desks with slates of numbers that are worked on while a desk is held. */
public final class CountRoom {
    public static final int BAD = -2, NONE = -1;

    private static final int DESKS = 8;
    private static final int MOST_PLACES = 8;
    private static final int MOST_CLIMBED = 12;
    private static final int MOST_ROUNDS = 20;

    // The FAILURES 1, 2 and 3, as they are answered; no other answer is as low as these.
    private static final int NOT_THERE = -11;
    private static final int NO_PLACE = -12;
    private static final int BY_NOTHING = -13;

    private static final long NO_NUMBER = -9223372036854775808L;

    /** How many places each desk has; 0 for one that is not there, as a slate has one at least. */
    private final int[] sizes;
    /** All slates in one row, made once, so that opening a desk makes nothing new. */
    private final int[] numbers;

    private int asked;
    private int held;
    private int broken;
    private int depth;
    private int deepest;
    private int hand;
    private long sum;

    public CountRoom() {
        sizes = new int[DESKS];
        numbers = new int[DESKS * MOST_PLACES];
    }

    public int open(int desk, int size) {
        if (!isDesk(desk) || size < 1 || size > MOST_PLACES) {
            return BAD;
        }
        if (isThere(desk)) {
            return 0;
        }
        sizes[desk] = size;
        // The row may still hold what stood there before the desk was closed.
        for (int place = 0; place < size; place++) {
            put(desk, place, 0);
        }
        return 1;
    }

    public int close(int desk) {
        if (!isDesk(desk)) {
            return BAD;
        }
        if (!isThere(desk)) {
            return 0;
        }
        sizes[desk] = 0;
        return 1;
    }

    public int write(int desk, int place, int v) {
        if (!isDesk(desk)) {
            return BAD;
        }
        if (!hold(desk)) {
            return NOT_THERE;
        }
        return release(writeHeld(desk, place, v));
    }

    public int share(int a, int b, int place) {
        if (!isDesk(a) || !isDesk(b)) {
            return BAD;
        }
        if (!hold(a)) {
            return NOT_THERE;
        }
        return release(shareWithin(a, b, place));
    }

    public int spread(int a, int b) {
        if (!isDesk(a) || !isDesk(b)) {
            return BAD;
        }
        if (!hold(a)) {
            return NOT_THERE;
        }
        return release(spreadWithin(a, b));
    }

    public int climb(int desk, int n) {
        if (!isDesk(desk) || n < 1 || n > MOST_CLIMBED) {
            return BAD;
        }
        return climbFrom(desk, 0, n);
    }

    public int find(int v) {
        for (int desk = 0; desk < DESKS; desk++) {
            // A desk that is not there is not asked for, so it is looked for ahead of the hold.
            if (isThere(desk) && hold(desk)) {
                int place = release(placeOf(desk, v));
                if (place != NONE) {
                    return 8 * desk + place;
                }
            }
        }
        return NONE;
    }

    public int rounds(int n, boolean passes) {
        if (n < 1 || n > MOST_ROUNDS) {
            return BAD;
        }
        int raised = 0;
        for (int round = 0; round < n; round++) {
            moveHand();
            if (hold(hand)) {
                raised++;
                boolean ends = raiseAtHand();
                letGo();
                if (ends) {
                    return raised;
                }
            } else if (!passes) {
                return NOT_THERE;
            }
        }
        return raised;
    }

    public int bring(int desk, boolean keeps) {
        if (!isDesk(desk)) {
            return BAD;
        }
        if (!hold(desk)) {
            return NOT_THERE;
        }
        return release(bringHeld(desk, keeps));
    }

    public long number(int desk, int place) {
        return hasPlace(desk, place) ? at(desk, place) : NO_NUMBER;
    }

    public long told(int what) {
        switch (what) {
            case 0:
                return asked;
            case 1:
                return held;
            case 2:
                return broken;
            case 3:
                return depth;
            case 4:
                return deepest;
            case 5:
                return hand;
            case 6:
                return countThere();
            case 7:
                return sum;
            default:
                return BAD;
        }
    }

    private int writeHeld(int desk, int place, int v) {
        if (!hasPlace(desk, place)) {
            return NO_PLACE;
        }
        put(desk, place, v);
        return 1;
    }

    private int shareWithin(int a, int b, int place) {
        if (!hold(b)) {
            return NOT_THERE;
        }
        return release(divideEach(a, b, place));
    }

    private int divideEach(int a, int b, int place) {
        for (int i = 0; i < sizes[a]; i++) {
            if (!hasPlace(b, place)) {
                return NO_PLACE;
            }
            // Looked at anew each time: where a is b, the divisor itself is divided on the way.
            int divisor = at(b, place);
            if (divisor == 0) {
                return BY_NOTHING;
            }
            put(a, i, at(a, i) / divisor);
        }
        return sizes[a];
    }

    private int spreadWithin(int a, int b) {
        for (int place = 0; place < sizes[a]; place++) {
            int answer = spreadAt(a, b, place);
            if (isFailure(answer)) {
                return answer;
            }
        }
        return sizes[a];
    }

    private int spreadAt(int a, int b, int place) {
        if (!hold(b)) {
            return NOT_THERE;
        }
        return release(addQuotient(a, b, place));
    }

    private int addQuotient(int a, int b, int place) {
        if (!hasPlace(b, place)) {
            return NO_PLACE;
        }
        int divisor = at(b, place);
        if (divisor == 0) {
            return BY_NOTHING;
        }
        put(b, place, divisor + at(a, place) / divisor);
        return 1;
    }

    private int climbFrom(int desk, int k, int n) {
        if (!hold(desk)) {
            return NOT_THERE;
        }
        return release(climbWithin(desk, k, n));
    }

    private int climbWithin(int desk, int k, int n) {
        if (!hasPlace(desk, k)) {
            return NO_PLACE;
        }
        put(desk, k, at(desk, k) + k);
        if (k + 1 < n && k + 1 < MOST_CLIMBED) {
            return climbFrom(desk, k + 1, n);
        }
        sum += at(desk, 0);
        return n;
    }

    private int placeOf(int desk, int v) {
        for (int place = 0; place < sizes[desk]; place++) {
            if (at(desk, place) == v) {
                return place;
            }
        }
        return NONE;
    }

    /** Whether the rounds end here. */
    private boolean raiseAtHand() {
        int now = at(hand, 0) + 1;
        put(hand, 0, now);
        if (now == 0) {
            return true;
        }
        if (now % 2 == 0) {
            moveHand();
        }
        return false;
    }

    private int bringHeld(int desk, boolean keeps) {
        for (int place = 0; place < sizes[desk]; place++) {
            int taken = at(desk, place);
            sum += taken;
            // Nothing looks at the slate before the call ends, so what is kept need not be 0 between.
            if (!keeps) {
                put(desk, place, 0);
            }
            if (taken < 0) {
                return place + 1;
            }
        }
        return sizes[desk];
    }

    /** Whether the desk is held now; if not, that is FAILURE 1. Each hold is ended by release or letGo. */
    private boolean hold(int desk) {
        asked++;
        if (!isThere(desk)) {
            return false;
        }
        held++;
        depth++;
        deepest = Math.max(deepest, depth);
        return true;
    }

    private void letGo() {
        depth--;
    }

    /** Ends a hold out of which this answer comes, and hands the answer on. */
    private int release(int answer) {
        letGo();
        if (isFailure(answer)) {
            broken++;
        }
        return answer;
    }

    private static boolean isFailure(int answer) {
        return answer <= NOT_THERE;
    }

    private static boolean isDesk(int desk) {
        return desk >= 0 && desk < DESKS;
    }

    private boolean isThere(int desk) {
        return isDesk(desk) && sizes[desk] > 0;
    }

    private boolean hasPlace(int desk, int place) {
        return isDesk(desk) && place >= 0 && place < sizes[desk];
    }

    /** Only for a place that hasPlace affirms. */
    private int at(int desk, int place) {
        return numbers[desk * MOST_PLACES + place];
    }

    /** Only for a place that hasPlace affirms. */
    private void put(int desk, int place, int v) {
        numbers[desk * MOST_PLACES + place] = v;
    }

    private void moveHand() {
        hand = hand + 1 < DESKS ? hand + 1 : 0;
    }

    private int countThere() {
        int there = 0;
        for (int desk = 0; desk < DESKS; desk++) {
            if (isThere(desk)) {
                there++;
            }
        }
        return there;
    }
}
