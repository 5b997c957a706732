import java.util.ArrayList;
import java.util.List;
import java.util.TreeMap;

/**
 * The document told once more in another way, to be compared with CountRoom: a FAILURE is an exception here and a
 * HOLD is a try around what is done, so that what ends and what is BROKEN follows from Java and not from answers.
 */
final class RoomModel {
    private static final class Failure extends RuntimeException {
        private static final long serialVersionUID = 1L;
        final int number;

        Failure(int number) {
            super(null, null, false, false);
            this.number = number;
        }
    }

    private interface Work {
        long done();
    }

    private final TreeMap<Integer, List<Integer>> slates = new TreeMap<>();
    private long asked, held, broken, depth, deepest, sum;
    private int hand;

    long call(String name, int a, int b, int c, boolean flag) {
        try {
            return answer(name, a, b, c, flag);
        } catch (Failure failure) {
            return -10 - failure.number;
        }
    }

    private long answer(String name, int a, int b, int c, boolean flag) {
        switch (name) {
            case "open": return bad(a) || b < 1 || b > 8 ? -2 : open(a, b);
            case "close": return bad(a) ? -2 : slates.remove(a) == null ? 0 : 1;
            case "write": return bad(a) ? -2 : hold(a, () -> set(a, b, c));
            case "share": return bad(a) || bad(b) ? -2 : hold(a, () -> hold(b, () -> share(a, b, c)));
            case "spread": return bad(a) || bad(b) ? -2 : hold(a, () -> spread(a, b));
            case "climb": return bad(a) || b < 1 || b > 12 ? -2 : hold(a, () -> climb(a, 0, b));
            case "find": return find(a);
            case "rounds": return a < 1 || a > 20 ? -2 : rounds(a, flag);
            case "bring": return bad(a) ? -2 : hold(a, () -> bring(a, flag));
            case "number": return !slates.containsKey(a) || b < 0 || b >= size(a) ? Long.MIN_VALUE : get(a, b);
            default: return told(a);
        }
    }

    private static boolean bad(int desk) {
        return desk < 0 || desk > 7;
    }

    private long hold(int desk, Work work) {
        asked++;
        if (!slates.containsKey(desk)) {
            throw new Failure(1);
        }
        held++;
        depth++;
        deepest = Math.max(deepest, depth);
        try {
            return work.done();
        } catch (Failure failure) {
            broken++;
            throw failure;
        } finally {
            depth--;
        }
    }

    private int size(int desk) {
        return slates.get(desk).size();
    }

    private int get(int desk, int place) {
        if (place < 0 || place >= size(desk)) {
            throw new Failure(2);
        }
        return slates.get(desk).get(place);
    }

    private int set(int desk, int place, int v) {
        get(desk, place);
        slates.get(desk).set(place, v);
        return 1;
    }

    private static int quotient(int a, int b) {
        if (b == 0) {
            throw new Failure(3);
        }
        return (int) ((long) a / b);
    }

    private long open(int desk, int size) {
        if (slates.containsKey(desk)) {
            return 0;
        }
        List<Integer> slate = new ArrayList<>();
        for (int i = 0; i < size; i++) {
            slate.add(0);
        }
        slates.put(desk, slate);
        return 1;
    }

    private long share(int a, int b, int place) {
        for (int i = 0; i < size(a); i++) {
            set(a, i, quotient(get(a, i), get(b, place)));
        }
        return size(a);
    }

    private long spread(int a, int b) {
        for (int i = 0; i < size(a); i++) {
            int place = i;
            hold(b, () -> set(b, place, get(b, place) + quotient(get(a, place), get(b, place))));
        }
        return size(a);
    }

    private long climb(int desk, int k, int n) {
        set(desk, k, get(desk, k) + k);
        if (k < n - 1) {
            return hold(desk, () -> climb(desk, k + 1, n));
        }
        sum += get(desk, 0);
        return n;
    }

    private long find(int v) {
        for (int desk : slates.keySet()) {
            long place = hold(desk, () -> slates.get(desk).indexOf(v));
            if (place >= 0) {
                return 8 * desk + place;
            }
        }
        return -1;
    }

    private long rounds(int n, boolean passes) {
        long raised = 0;
        for (int i = 0; i < n; i++) {
            hand = (hand + 1) % 8;
            int desk = hand;
            long now;
            try {
                now = hold(desk, () -> {
                    set(desk, 0, get(desk, 0) + 1);
                    return get(desk, 0);
                });
            } catch (Failure failure) {
                if (!passes) {
                    throw failure;
                }
                continue;
            }
            raised++;
            if (now == 0) {
                break;
            }
            if ((now & 1) == 0) {
                hand = (hand + 1) % 8;
            }
        }
        return raised;
    }

    private long bring(int desk, boolean keeps) {
        List<Integer> before = new ArrayList<>(slates.get(desk));
        int taken = 0;
        boolean last = false;
        while (taken < before.size() && !last) {
            last = before.get(taken) < 0;
            sum += before.get(taken);
            set(desk, taken, 0);
            taken++;
        }
        if (keeps) {
            slates.put(desk, before);
        }
        return taken;
    }

    private long told(int what) {
        long[] all = {asked, held, broken, depth, deepest, hand, slates.size(), sum};
        return what < 0 || what >= all.length ? -2 : all[what];
    }
}
