/** Counts the answers that are not the ones that are due, and prints each. */
final class Checks {
    static final long LEAST = Long.MIN_VALUE;

    private int wrong = 0;
    private int made = 0;

    void due(String call, long got, long want) {
        made++;
        if (got != want) {
            wrong++;
            System.out.println(call + " answered " + got + ", due is " + want);
        }
    }

    void holds(String what, boolean truth) {
        due(what, truth ? 1 : 0, 1);
    }

    /** The places of a slate from 0 on, and that there is none behind them. */
    void slate(String when, CountRoom room, int desk, int... numbers) {
        for (int place = 0; place < numbers.length; place++) {
            due(when + ": number(" + desk + ", " + place + ")", room.number(desk, place), numbers[place]);
        }
        due(when + ": number(" + desk + ", " + numbers.length + ")", room.number(desk, numbers.length), LEAST);
    }

    /** What told(0), told(1), .. are due to answer. */
    void told(String when, CountRoom room, long... wants) {
        for (int what = 0; what < wants.length; what++) {
            due(when + ": told(" + what + ")", room.told(what), wants[what]);
        }
    }

    void end() {
        System.out.println(wrong == 0 ? made + " answers are as due" : wrong + " answers of " + made + " are not as due");
        if (wrong != 0) {
            System.exit(1);
        }
    }
}
