/** Each promise of the document: ordinary inputs, the edges that it names, and wrong inputs. */
public final class PromisesTest {
    private static final Checks CHECKS = new Checks();
    private static final int BAD = -2, NONE = -1, NOT_THERE = -11, NO_PLACE = -12, BY_NOTHING = -13;
    private static final int MIN = Integer.MIN_VALUE, MAX = Integer.MAX_VALUE;
    private static final int[] NO_DESKS = {-1, 8, MIN, MAX};

    public static void main(String[] args) {
        aNewObject();
        open();
        openAfterClose();
        close();
        write();
        share();
        shareWithItself();
        shareBreaksOff();
        spread();
        spreadWithItself();
        spreadBreaksOff();
        climb();
        climbBreaksOff();
        find();
        findHoldsInTurn();
        rounds();
        roundsEndAtNothing();
        roundsGoOnAtEven();
        roundsWhereNoDeskIs();
        bring();
        bringKeeps();
        number();
        told();
        badChangesNothing();
        objectsAreApart();
        CHECKS.end();
    }

    private static void due(String call, long got, long want) {
        CHECKS.due(call, got, want);
    }

    /** A room with one desk more, whose slate has these numbers; each of them is one hold. */
    private static CountRoom with(CountRoom room, int desk, int... numbers) {
        due("open " + desk, room.open(desk, numbers.length), 1);
        for (int place = 0; place < numbers.length; place++) {
            due("write " + desk, room.write(desk, place, numbers[place]), 1);
        }
        return room;
    }

    private static void aNewObject() {
        CountRoom room = new CountRoom();
        CHECKS.told("new", room, 0, 0, 0, 0, 0, 0, 0, 0);
        for (int desk = 0; desk < 8; desk++) {
            CHECKS.slate("new", room, desk);
            due("new: close", room.close(desk), 0);
        }
        due("BAD", CountRoom.BAD, BAD);
        due("NONE", CountRoom.NONE, NONE);
    }

    private static void open() {
        CountRoom room = new CountRoom();
        for (int desk = 0; desk < 8; desk++) {
            due("open", room.open(desk, desk + 1), 1);
            due("open: there", room.told(6), desk + 1);
        }
        for (int desk = 0; desk < 8; desk++) {
            CHECKS.slate("open", room, desk, new int[desk + 1]);
        }
        due("write", room.write(3, 1, 7), 1);
        due("open again", room.open(3, 8), 0);
        CHECKS.slate("open again", room, 3, 0, 7, 0, 0);
        due("open there, size 0", room.open(3, 0), BAD);
        due("open there, size 9", room.open(3, 9), BAD);
        CHECKS.told("open is no hold", room, 1, 1, 0, 0, 1, 0, 8, 0);
        CountRoom empty = new CountRoom();
        for (int desk : NO_DESKS) {
            due("open no desk", empty.open(desk, 1), BAD);
        }
        for (int size : new int[] {0, 9, -1, MIN, MAX}) {
            due("open size " + size, empty.open(0, size), BAD);
        }
        due("open BAD opens none", empty.told(6), 0);
    }

    private static void openAfterClose() {
        CountRoom room = with(new CountRoom(), 7, 1, 2, 3);
        due("close", room.close(7), 1);
        due("open smaller", room.open(7, 2), 1);
        CHECKS.slate("open smaller", room, 7, 0, 0);
        due("close", room.close(7), 1);
        due("open larger", room.open(7, 8), 1);
        CHECKS.slate("open larger", room, 7, 0, 0, 0, 0, 0, 0, 0, 0);
    }

    private static void close() {
        CountRoom room = with(with(new CountRoom(), 0, 5), 7, 6, 6);
        due("close", room.close(7), 1);
        CHECKS.slate("closed", room, 7);
        CHECKS.slate("the other one", room, 0, 5);
        due("close again", room.close(7), 0);
        due("close none", room.close(3), 0);
        for (int desk : NO_DESKS) {
            due("close no desk", room.close(desk), BAD);
        }
        CHECKS.told("close is no hold", room, 3, 3, 0, 0, 1, 0, 1, 0);
    }

    private static void write() {
        CountRoom room = new CountRoom();
        room.open(2, 3);
        due("write", room.write(2, 0, MIN), 1);
        due("write", room.write(2, 2, MAX), 1);
        CHECKS.slate("write", room, 2, MIN, 0, MAX);
        CHECKS.told("write", room, 2, 2, 0, 0, 1);
        for (int place : new int[] {3, 7, 8, -1, MIN, MAX}) {
            due("write no place " + place, room.write(2, place, 1), NO_PLACE);
        }
        CHECKS.told("write no place", room, 8, 8, 6, 0, 1);
        due("write not there", room.write(3, 0, 1), NOT_THERE);
        due("write not there, no place", room.write(3, -1, 1), NOT_THERE);
        CHECKS.told("write not there", room, 10, 8, 6, 0, 1);
        for (int desk : NO_DESKS) {
            due("write no desk", room.write(desk, 0, 1), BAD);
            due("write no desk, no place", room.write(desk, -1, 1), BAD);
        }
        CHECKS.told("write BAD", room, 10, 8, 6, 0, 1);
        CHECKS.slate("write", room, 2, MIN, 0, MAX);
    }

    private static void share() {
        CountRoom room = with(with(new CountRoom(), 1, 7, -7, 1, MIN), 6, 9, -2);
        due("share", room.share(1, 6, 1), 4);
        CHECKS.slate("share is cut", room, 1, -3, 3, 0, 1073741824);
        CHECKS.slate("share keeps b", room, 6, 9, -2);
        CHECKS.told("share", room, 8, 8, 0, 0, 2, 0, 2, 0);
        CountRoom wraps = with(with(new CountRoom(), 0, MIN), 1, -1);
        due("share wraps", wraps.share(0, 1, 0), 1);
        CHECKS.slate("share wraps", wraps, 0, MIN);
    }

    private static void shareWithItself() {
        CountRoom first = with(new CountRoom(), 4, 5, 50, 500);
        due("share itself by the first", first.share(4, 4, 0), 3);
        CHECKS.slate("share itself by the first", first, 4, 1, 50, 500);
        CHECKS.told("share itself", first, 5, 5, 0, 0, 2);
        CountRoom middle = with(new CountRoom(), 4, 50, 5, 500);
        due("share itself by the middle", middle.share(4, 4, 1), 3);
        CHECKS.slate("share itself by the middle", middle, 4, 10, 1, 500);
    }

    private static void shareBreaksOff() {
        CountRoom room = with(with(new CountRoom(), 0, 8, 6), 1, 0, 2);
        due("share by nothing", room.share(0, 1, 0), BY_NOTHING);
        CHECKS.told("share by nothing", room, 6, 6, 2, 0, 2);
        for (int place : new int[] {2, 8, -1, MIN, MAX}) {
            due("share no place " + place, room.share(0, 1, place), NO_PLACE);
        }
        CHECKS.told("share no place", room, 16, 16, 12, 0, 2);
        due("share, b is not there", room.share(0, 2, 0), NOT_THERE);
        CHECKS.told("share, b is not there", room, 18, 17, 13, 0, 2);
        due("share, a is not there", room.share(2, 0, -1), NOT_THERE);
        due("share, neither is there", room.share(2, 2, 0), NOT_THERE);
        CHECKS.told("share, a is not there", room, 20, 17, 13, 0, 2);
        CHECKS.slate("share breaks off", room, 0, 8, 6);
        CHECKS.slate("share breaks off", room, 1, 0, 2);
    }

    private static void spread() {
        CountRoom room = with(with(new CountRoom(), 0, 7, -9, MIN), 5, -2, 4, -1, 11);
        due("spread", room.spread(0, 5), 3);
        CHECKS.slate("spread", room, 5, -5, 2, MAX, 11);
        CHECKS.slate("spread keeps a", room, 0, 7, -9, MIN);
        CHECKS.told("spread", room, 11, 11, 0, 0, 2);
    }

    private static void spreadWithItself() {
        CountRoom room = with(new CountRoom(), 0, 7, -9, MAX);
        due("spread itself", room.spread(0, 0), 3);
        CHECKS.slate("spread itself", room, 0, 8, -8, MIN);
        CHECKS.told("spread itself", room, 7, 7, 0, 0, 2);
    }

    private static void spreadBreaksOff() {
        CountRoom room = with(with(with(new CountRoom(), 0, 9, 8, 7), 1, 2, 0, 1), 2, 3, 4);
        CHECKS.told("ahead of spread", room, 8, 8, 0, 0, 1);
        due("spread by nothing", room.spread(0, 1), BY_NOTHING);
        CHECKS.slate("what was done stays", room, 1, 6, 0, 1);
        CHECKS.told("spread by nothing", room, 11, 11, 2, 0, 2);
        due("spread no place", room.spread(0, 2), NO_PLACE);
        CHECKS.slate("what was done stays", room, 2, 6, 6);
        CHECKS.told("spread no place", room, 15, 15, 4, 0, 2);
        due("spread, b is not there", room.spread(0, 3), NOT_THERE);
        CHECKS.told("spread, b is not there", room, 17, 16, 5, 0, 2);
        due("spread, a is not there", room.spread(3, 0), NOT_THERE);
        CHECKS.told("spread, a is not there", room, 18, 16, 5, 0, 2);
        for (int desk : NO_DESKS) {
            due("spread no desk", room.spread(desk, 0), BAD);
            due("spread no desk", room.spread(0, desk), BAD);
            due("spread no desk, one not there", room.spread(3, desk), BAD);
        }
        CHECKS.told("spread BAD", room, 18, 16, 5, 0, 2);
    }

    private static void climb() {
        CountRoom room = with(new CountRoom(), 3, 10, 20, MAX);
        due("climb once", room.climb(3, 1), 1);
        CHECKS.slate("climb once", room, 3, 10, 20, MAX);
        CHECKS.told("climb once", room, 4, 4, 0, 0, 1, 0, 1, 10);
        due("climb", room.climb(3, 3), 3);
        CHECKS.slate("climb", room, 3, 10, 21, MIN + 1);
        CHECKS.told("climb", room, 7, 7, 0, 0, 3, 0, 1, 20);
        CountRoom wide = new CountRoom();
        wide.open(7, 8);
        due("climb 8", wide.climb(7, 8), 8);
        CHECKS.slate("climb 8", wide, 7, 0, 1, 2, 3, 4, 5, 6, 7);
        CHECKS.told("climb 8", wide, 8, 8, 0, 0, 8);
    }

    private static void climbBreaksOff() {
        CountRoom room = with(new CountRoom(), 0, 10, 20);
        due("climb no place", room.climb(0, 3), NO_PLACE);
        CHECKS.slate("climb no place", room, 0, 10, 21);
        CHECKS.told("climb no place", room, 5, 5, 3, 0, 3, 0, 1, 0);
        due("climb 12", room.climb(0, 12), NO_PLACE);
        CHECKS.told("climb 12", room, 8, 8, 6, 0, 3, 0, 1, 0);
        due("climb not there", room.climb(1, 12), NOT_THERE);
        CHECKS.told("climb not there", room, 9, 8, 6, 0, 3, 0, 1, 0);
        for (int n : new int[] {0, 13, -1, MIN, MAX}) {
            due("climb n " + n, room.climb(0, n), BAD);
            due("climb n, not there " + n, room.climb(1, n), BAD);
        }
        for (int desk : NO_DESKS) {
            due("climb no desk", room.climb(desk, 1), BAD);
        }
        CHECKS.told("climb BAD", room, 9, 8, 6, 0, 3, 0, 1, 0);
        CHECKS.slate("climb BAD", room, 0, 10, 22);
    }

    private static void find() {
        CountRoom room = new CountRoom();
        due("find in no desk", room.find(0), NONE);
        CHECKS.told("find in no desk", room, 0, 0, 0, 0, 0);
        with(with(room, 7, 4, 4, 4, 4, 4, 4, 4, 9), 1, 3, MIN);
        due("find the last place", room.find(9), 63);
        due("find the first of many", room.find(4), 56);
        due("find", room.find(MIN), 9);
        due("find none", room.find(0), NONE);
        room.close(1);
        due("find in a closed one", room.find(3), NONE);
        due("open smaller", room.open(1, 1), 1);
        due("find behind the slate's end", room.find(MIN), NONE);
    }

    private static void findHoldsInTurn() {
        CountRoom room = with(with(with(new CountRoom(), 0, 1), 3, 2), 7, 3);
        due("find", room.find(2), 24);
        CHECKS.told("find ends there", room, 5, 5, 0, 0, 1);
        due("find", room.find(5), NONE);
        CHECKS.told("find holds in turn", room, 8, 8, 0, 0, 1);
    }

    private static void rounds() {
        CountRoom room = new CountRoom();
        for (int desk = 0; desk < 8; desk++) {
            with(room, desk, 2 * desk, 100);
        }
        due("rounds", room.rounds(8, false), 8);
        for (int desk = 0; desk < 8; desk++) {
            CHECKS.slate("rounds", room, desk, 2 * desk + 1, 100);
        }
        CHECKS.told("rounds", room, 24, 24, 0, 0, 1, 0, 8, 0);
        due("rounds once", room.rounds(1, false), 1);
        due("rounds, the hand", room.told(5), 2);
        CHECKS.slate("rounds once", room, 1, 4, 100);
        for (int n : new int[] {0, 21, -1, MIN, MAX}) {
            due("rounds n " + n, room.rounds(n, true), BAD);
            due("rounds n " + n, room.rounds(n, false), BAD);
        }
        CHECKS.told("rounds BAD", room, 25, 25, 0, 0, 1, 2, 8, 0);
        due("rounds 20", room.rounds(20, false), 20);
        CHECKS.told("rounds 20", room, 45, 45, 0, 0, 1);
    }

    private static void roundsEndAtNothing() {
        CountRoom room = with(with(with(new CountRoom(), 1, 4), 2, -1), 3, 4);
        due("rounds to nothing", room.rounds(20, false), 2);
        due("rounds to nothing, the hand", room.told(5), 2);
        CHECKS.slate("rounds to nothing", room, 2, 0);
        CHECKS.slate("rounds to nothing", room, 3, 4);
        CHECKS.told("rounds to nothing", room, 5, 5, 0, 0, 1);
    }

    private static void roundsGoOnAtEven() {
        CountRoom room = with(with(with(with(new CountRoom(), 1, 1), 2, 6), 3, -3), 7, MAX);
        due("rounds at even", room.rounds(2, false), 2);
        due("rounds at even, the hand", room.told(5), 4);
        CHECKS.slate("rounds at even", room, 1, 2);
        CHECKS.slate("rounds at even", room, 2, 6);
        CHECKS.slate("rounds at even below nothing", room, 3, -2);
        due("rounds over the end", room.rounds(3, true), 1);
        CHECKS.slate("rounds wrap", room, 7, MIN);
        due("rounds over the end, the hand", room.told(5), 0);
    }

    private static void roundsWhereNoDeskIs() {
        CountRoom room = with(new CountRoom(), 1, 2);
        due("rounds without", room.rounds(3, false), NOT_THERE);
        due("rounds without, the hand", room.told(5), 2);
        CHECKS.slate("what was done stays", room, 1, 3);
        CHECKS.told("rounds without", room, 3, 2, 0, 0, 1);
        due("rounds with passes", room.rounds(8, true), 1);
        CHECKS.told("rounds with passes", room, 11, 3, 0, 0, 1, 3, 1, 0);
        CHECKS.slate("rounds with passes", room, 1, 4);
        CountRoom empty = new CountRoom();
        due("rounds in no desk", empty.rounds(20, true), 0);
        CHECKS.told("rounds in no desk", empty, 20, 0, 0, 0, 0, 4, 0, 0);
        due("rounds in no desk", empty.rounds(20, false), NOT_THERE);
        CHECKS.told("rounds in no desk", empty, 21, 0, 0, 0, 0, 5, 0, 0);
    }

    private static void bring() {
        CountRoom room = with(with(new CountRoom(), 6, 3, 0, MIN, 5), 0, MAX, MAX, MAX);
        due("bring", room.bring(6, false), 3);
        CHECKS.slate("bring", room, 6, 0, 0, 0, 5);
        CHECKS.told("bring", room, 8, 8, 0, 0, 1, 0, 2, MIN + 3L);
        due("bring all", room.bring(0, false), 3);
        CHECKS.slate("bring all", room, 0, 0, 0, 0);
        due("bring all", room.told(7), MIN + 3L + 3L * MAX);
        due("bring not there", room.bring(1, false), NOT_THERE);
        CHECKS.told("bring not there", room, 10, 9, 0, 0, 1);
        for (int desk : NO_DESKS) {
            due("bring no desk", room.bring(desk, false), BAD);
            due("bring no desk", room.bring(desk, true), BAD);
        }
        CHECKS.told("bring BAD", room, 10, 9, 0, 0, 1, 0, 2, MIN + 3L + 3L * MAX);
    }

    private static void bringKeeps() {
        CountRoom room = with(new CountRoom(), 2, 3, -1, 9);
        due("bring keeps", room.bring(2, true), 2);
        CHECKS.slate("bring keeps", room, 2, 3, -1, 9);
        CHECKS.told("bring keeps", room, 4, 4, 0, 0, 1, 0, 1, 2);
        due("bring", room.bring(2, false), 2);
        due("bring the rest", room.bring(2, true), 3);
        CHECKS.slate("bring the rest", room, 2, 0, 0, 9);
        due("bring the rest", room.told(7), 13);
        due("bring keeps, not there", room.bring(3, true), NOT_THERE);
    }

    private static void number() {
        CountRoom room = with(new CountRoom(), 7, -1, MIN);
        due("number", room.number(7, 0), -1);
        due("number", room.number(7, 1), MIN);
        for (int place : new int[] {2, 8, -1, MIN, MAX}) {
            due("number no place " + place, room.number(7, place), Checks.LEAST);
        }
        due("number not there", room.number(6, 0), Checks.LEAST);
        due("number of the next desk's row", room.number(6, 8), Checks.LEAST);
        for (int desk : NO_DESKS) {
            due("number no desk", room.number(desk, 0), Checks.LEAST);
        }
        CHECKS.told("number is no hold", room, 2, 2, 0, 0, 1);
    }

    private static void told() {
        CountRoom room = with(with(new CountRoom(), 1, 2, 2), 4, 1);
        room.write(1, 2, 0);
        room.rounds(1, false);
        room.write(0, 0, 0);
        room.share(1, 4, 0);
        room.bring(1, true);
        CHECKS.told("told", room, 9, 8, 1, 0, 2, 1, 2, 5);
        CHECKS.told("told once more", room, 9, 8, 1, 0, 2, 1, 2, 5);
        for (int what : new int[] {8, -1, MIN, MAX}) {
            due("told " + what, room.told(what), BAD);
        }
    }

    private static void badChangesNothing() {
        CountRoom room = with(with(new CountRoom(), 0, 8, 9), 1, 2);
        for (int desk : NO_DESKS) {
            due("share no desk", room.share(desk, 0, 0), BAD);
            due("share no desk", room.share(0, desk, 0), BAD);
            due("share no desk, one not there", room.share(2, desk, 0), BAD);
            due("share no desk, no place", room.share(0, desk, -1), BAD);
        }
        CHECKS.told("BAD", room, 3, 3, 0, 0, 1, 0, 2, 0);
        CHECKS.slate("BAD", room, 0, 8, 9);
        CHECKS.slate("BAD", room, 1, 2);
    }

    private static void objectsAreApart() {
        CountRoom one = with(new CountRoom(), 0, 5);
        CountRoom other = new CountRoom();
        due("open in the other", other.open(0, 2), 1);
        CHECKS.slate("one", one, 0, 5);
        CHECKS.slate("other", other, 0, 0, 0);
        due("other's ASKED", other.told(0), 0);
    }
}
