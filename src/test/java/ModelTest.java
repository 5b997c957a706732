/** Long runs of mixed calls, the same each time, whose answers and state are compared with RoomModel's. */
public final class ModelTest {
    private static final int RUNS = 3000;
    /** With the 80 calls that look at the state behind a run, 512: more than that is not promised. */
    private static final int MOST_CALLS = 432;
    private static final String[] NAMES = {
        "open", "open", "close", "write", "write", "write", "share", "spread", "climb", "find", "rounds", "bring",
        "number", "told"
    };
    private static final int[] EDGES = {
        Integer.MIN_VALUE, Integer.MIN_VALUE + 1, Integer.MAX_VALUE, Integer.MAX_VALUE - 1, -1, 0, 8, 9, 12, 13, 20, 21
    };

    private long seed = 20261116;

    public static void main(String[] args) {
        Checks checks = new Checks();
        ModelTest test = new ModelTest();
        for (int run = 0; run < RUNS; run++) {
            test.run(checks, run);
        }
        checks.end();
    }

    private void run(Checks checks, int run) {
        CountRoom room = new CountRoom();
        RoomModel model = new RoomModel();
        int calls = 1 + below(MOST_CALLS);
        for (int i = 0; i < calls; i++) {
            String name = NAMES[below(NAMES.length)];
            int a = first(name);
            int b = second(name);
            int c = name.equals("write") ? value() : desk();
            boolean flag = below(2) == 0;
            String call = "run " + run + ", call " + i + ": " + name + "(" + a + ", " + b + ", " + c + ", " + flag + ")";
            checks.due(call, call(room, name, a, b, c, flag), model.call(name, a, b, c, flag));
        }
        compareState(checks, "run " + run + ", after " + calls + " calls", room, model);
    }

    private static void compareState(Checks checks, String when, CountRoom room, RoomModel model) {
        for (int what = 0; what < 8; what++) {
            checks.due(when + ": told(" + what + ")", room.told(what), model.call("told", what, 0, 0, false));
        }
        for (int desk = 0; desk < 8; desk++) {
            for (int place = 0; place < 9; place++) {
                long want = model.call("number", desk, place, 0, false);
                checks.due(when + ": number(" + desk + ", " + place + ")", room.number(desk, place), want);
            }
        }
    }

    private static long call(CountRoom room, String name, int a, int b, int c, boolean flag) {
        switch (name) {
            case "open": return room.open(a, b);
            case "close": return room.close(a);
            case "write": return room.write(a, b, c);
            case "share": return room.share(a, b, c);
            case "spread": return room.spread(a, b);
            case "climb": return room.climb(a, b);
            case "find": return room.find(a);
            case "rounds": return room.rounds(a, flag);
            case "bring": return room.bring(a, flag);
            case "number": return room.number(a, b);
            default: return room.told(a);
        }
    }

    private int first(String name) {
        switch (name) {
            case "find": return value();
            case "rounds": return rarely() ? edge() : 1 + below(20);
            default: return desk();
        }
    }

    private int second(String name) {
        switch (name) {
            case "open": return rarely() ? edge() : 1 + below(8);
            case "climb": return rarely() ? edge() : 1 + below(12);
            default: return desk();
        }
    }

    private int desk() {
        return rarely() ? edge() : below(8);
    }

    private int value() {
        return rarely() ? edge() : below(12) - 3;
    }

    private int edge() {
        return EDGES[below(EDGES.length)];
    }

    private boolean rarely() {
        return below(12) == 0;
    }

    private int below(int bound) {
        seed = seed * 6364136223846793005L + 1442695040888963407L;
        return (int) ((seed >>> 33) % bound);
    }
}
