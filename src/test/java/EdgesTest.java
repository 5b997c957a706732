/** The document's promises, sentence by sentence: each boundary that one names has a run of its own. */
public final class EdgesTest {
    private static final int BAD = Trial.BAD, NONE = Trial.NONE;
    private static final int NOT_THERE = Trial.NOT_THERE, NO_PLACE = Trial.NO_PLACE, BY_NOTHING = Trial.BY_NOTHING;
    private static final int MIN = Trial.MIN, MAX = Trial.MAX;
    private static final Checks CHECKS = new Checks();

    public static void main(String[] args) {
        promise1();
        promise2();
        promise3();
        promise4();
        promise5();
        promise5WithItself();
        promise5BreaksOff();
        promise6();
        promise6WithItself();
        promise6BreaksOff();
        promise7();
        promise7BreaksOff();
        promise8();
        promise8Holds();
        promise9();
        promise9Hand();
        promise9Ends();
        promise9WhereNoDeskIs();
        promise10();
        promise10Keeps();
        promise11();
        promise12();
        CHECKS.end();
    }

    private static Trial edge(String sentence) {
        return new Trial(CHECKS, "Promise " + sentence);
    }

    private static void promise1() {
        Trial none = edge("1: No DESK is there").there(0);
        for (int desk = 0; desk < 8; desk++) {
            none.number(desk, 0, Checks.LEAST).close(desk, 0);
        }
        Trial told = edge("1: a new object's told");
        for (int what = 0; what < 8; what++) {
            told.told(what, 0);
        }
        Trial other = edge("1: a new object shares nothing with one before it").desk(0, 5).rounds(3, true, 0);
        edge("1: a new object shares nothing with one before it").there(0).slate(0).asked(0).hand(0).open(0, 1, 1)
            .slate(0, 0);
        other.slate(0, 5).hand(3);
    }

    private static void promise2() {
        edge("2: a SLATE of so many NUMBERS: 1 - of one").open(0, 1, 1).slate(0, 0).there(1);
        edge("2: a SLATE of so many NUMBERS: 1 - of eight").open(7, 8, 1).slate(7, 0, 0, 0, 0, 0, 0, 0, 0).there(1);
        edge("2: 0: it was there (nothing changes) - with as many").desk(2, 4, 5).ready().open(2, 2, 0).same();
        edge("2: 0: it was there (nothing changes) - with more").desk(2, 4, 5).ready().open(2, 8, 0).same();
        edge("2: 0: it was there (nothing changes) - with fewer").desk(2, 4, 5).ready().open(2, 1, 0).same();
        edge("2: a DESK that was closed is opened").desk(2, 4, 5).close(2, 1).open(2, 3, 1).slate(2, 0, 0, 0).there(1);
        edge("2: open leaves the others").desk(1, 4, 5).desk(3, 6).open(2, 8, 1).slate(1, 4, 5).slate(3, 6).there(3);
        edge("2: open holds none").ready().open(2, 8, 1).open(2, 8, 0).counts(0, 0, 0).deepest(0);
        edge("2: BAD - desk too small").ready().open(-1, 1, BAD).open(MIN, 1, BAD).same();
        edge("2: BAD - desk too large").ready().open(8, 1, BAD).open(MAX, 1, BAD).same();
        edge("2: BAD - size too small").ready().open(0, 0, BAD).open(0, -1, BAD).open(0, MIN, BAD).same();
        edge("2: BAD - size too large").ready().open(0, 9, BAD).open(0, MAX, BAD).same();
        edge("2: BAD - size, where the DESK is there").desk(0, 3).ready().open(0, 0, BAD).open(0, 9, BAD).same();
    }

    private static void promise3() {
        edge("3: there no more: 1").desk(2, 4, 5).close(2, 1).slate(2).there(0).write(2, 0, 1, NOT_THERE);
        edge("3: 0: it was not - never").ready().close(2, 0).same();
        edge("3: 0: it was not - any more").desk(2, 4).close(2, 1).ready().close(2, 0).same();
        edge("3: close the first and the last").open(0, 1, 1).open(7, 1, 1).close(7, 1).there(1).close(0, 1).there(0);
        edge("3: close leaves the others").desk(1, 4, 5).desk(2, 9).desk(3, 6).close(2, 1).slate(1, 4, 5).slate(3, 6)
            .there(2);
        edge("3: close holds none").open(2, 1, 1).ready().close(2, 1).close(2, 0).counts(0, 0, 0).deepest(0);
        edge("3: close leaves what is told").desk(1, 4, 5).rounds(1, false, 1).bring(1, true, 2).ready().close(1, 1)
            .counts(0, 0, 0).deepest(1).hand(1).sum(10);
        edge("3: BAD - too small").desk(0, 1).ready().close(-1, BAD).close(MIN, BAD).same();
        edge("3: BAD - too large").desk(7, 1).ready().close(8, BAD).close(MAX, BAD).same();
    }

    private static void promise4() {
        edge("4: the NUMBER becomes v: 1 - at the first place").desk(2, 4, 5, 6).write(2, 0, 9, 1).slate(2, 9, 5, 6);
        edge("4: the NUMBER becomes v: 1 - at the last place").desk(2, 4, 5, 6).write(2, 2, 9, 1).slate(2, 4, 5, 9);
        edge("4: the NUMBER becomes v - the least and the greatest").open(2, 2, 1).write(2, 0, MIN, 1)
            .write(2, 1, MAX, 1).slate(2, MIN, MAX);
        edge("4: the NUMBER becomes v - 0, and what it was").desk(2, 4).write(2, 0, 4, 1).slate(2, 4)
            .write(2, 0, 0, 1).slate(2, 0);
        edge("4: A DESK is held").desk(2, 4).ready().write(2, 0, 9, 1).counts(1, 1, 0).deepest(1);
        edge("4: BAD: desk - too small").desk(0, 4).ready().write(-1, 0, 1, BAD).write(MIN, 0, 1, BAD).same();
        edge("4: BAD: desk - too large").desk(7, 4).ready().write(8, 0, 1, BAD).write(MAX, 0, 1, BAD).same();
        edge("4: BAD: desk - and no more is BAD").open(2, 1, 1).write(2, -1, 1, NO_PLACE).write(2, 8, 1, NO_PLACE)
            .write(2, MIN, 1, NO_PLACE).write(2, MAX, 1, NO_PLACE);
        edge("4: 1").desk(2, 4).ready().write(3, 0, 9, NOT_THERE).counts(1, 0, 0).sameSlates();
        edge("4: 1 ahead of 2").ready().write(3, -1, 9, NOT_THERE).write(3, 8, 9, NOT_THERE).counts(2, 0, 0);
        edge("4: 2").desk(2, 4).ready().write(2, 1, 9, NO_PLACE).counts(1, 1, 1).sameSlates();
    }

    private static void promise5() {
        edge("5: a is held, and within that b").desk(0, 8).desk(1, 2).ready().share(0, 1, 0, 1).counts(2, 2, 0)
            .deepest(2);
        edge("5: each NUMBER of a: how many - one").desk(0, 8).desk(1, 2, 3).share(0, 1, 1, 1).slate(0, 2)
            .slate(1, 2, 3);
        edge("5: each NUMBER of a: how many - eight").desk(6, 10, 20, 30, 40, 50, 60, 70, 80).desk(7, 10)
            .share(6, 7, 0, 8).slate(6, 1, 2, 3, 4, 5, 6, 7, 8).slate(7, 10);
        edge("5: b held once, not for each NUMBER").desk(0, 8, 8, 8, 8).desk(1, 2).ready().share(0, 1, 0, 4)
            .counts(2, 2, 0);
        edge("5: that of b at a place - the last one").desk(0, 12).desk(1, 2, 3, 4).share(0, 1, 2, 1).slate(0, 3);
        edge("5: that of b at a place - which a does not have").desk(0, 70).desk(1, 0, 0, 0, 0, 0, 0, 0, 7)
            .share(0, 1, 7, 1).slate(0, 10);
        edge("5: its quotient by 1, and by -1").desk(0, 5, -5, MAX).desk(1, 1, -1).share(0, 1, 0, 3)
            .slate(0, 5, -5, MAX).share(0, 1, 1, 3).slate(0, -5, 5, MIN + 1);
        edge("5: its quotient by the least and the greatest").desk(0, MIN, MAX, 5).desk(1, MIN, MAX).share(0, 1, 0, 3)
            .slate(0, 1, 0, 0).write(0, 1, MAX, 1).write(0, 2, MIN, 1).share(0, 1, 1, 3).slate(0, 0, 1, -1);
        edge("5: BAD - a too small, too large").desk(0, 8).ready().share(-1, 0, 0, BAD).share(8, 0, 0, BAD)
            .share(MIN, 0, 0, BAD).share(MAX, 0, 0, BAD).same();
        edge("5: BAD - b too small, too large").desk(0, 8).ready().share(0, -1, 0, BAD).share(0, 8, 0, BAD)
            .share(0, MIN, 0, BAD).share(0, MAX, 0, BAD).same();
    }

    private static void promise5WithItself() {
        edge("5: as that is then - by the first, 1 from there on").desk(3, 4, 40, 400).share(3, 3, 0, 3)
            .slate(3, 1, 40, 400);
        edge("5: as that is then - by the middle").desk(3, 40, 4, 400).share(3, 3, 1, 3).slate(3, 10, 1, 400);
        edge("5: as that is then - by the last").desk(3, 40, 400, 4).share(3, 3, 2, 3).slate(3, 10, 100, 1);
        edge("5: as that is then - by one below 0").desk(3, -4, 40).share(3, 3, 0, 2).slate(3, 1, 40);
        edge("5: a may be b - of one place").desk(3, 9).ready().share(3, 3, 0, 1).counts(2, 2, 0).slate(3, 1);
        edge("5: a may be b - by 0: what stood ahead stays").desk(3, 9, 0, 7).ready().share(3, 3, 1, BY_NOTHING)
            .counts(2, 2, 2).sameSlates();
        edge("5: a may be b - without such a place").desk(3, 9, 8).ready().share(3, 3, 2, NO_PLACE).counts(2, 2, 2)
            .sameSlates();
        edge("5: a may be b - which is not there").ready().share(3, 3, 0, NOT_THERE).counts(1, 0, 0);
    }

    private static void promise5BreaksOff() {
        edge("5: 1 - a is not there: b is not asked for").desk(1, 2).ready().share(0, 1, 0, NOT_THERE).counts(1, 0, 0)
            .sameSlates();
        edge("5: 1 - b is not there: a's HOLD is BROKEN").desk(0, 8).ready().share(0, 1, 0, NOT_THERE).counts(2, 1, 1)
            .deepest(1).sameSlates();
        edge("5: 1 - neither is there").ready().share(0, 1, 0, NOT_THERE).counts(1, 0, 0);
        edge("5: 1 ahead of 2").desk(0, 8).share(0, 1, -1, NOT_THERE).share(1, 0, 8, NOT_THERE);
        edge("5: 2 - one behind b's last place").desk(0, 8, 8, 8).desk(1, 2, 2).ready().share(0, 1, 2, NO_PLACE)
            .counts(2, 2, 2).deepest(2).sameSlates();
        edge("5: 2 - one ahead of 0").desk(0, 8, 8, 8).desk(1, 2, 2).ready().share(0, 1, -1, NO_PLACE).counts(2, 2, 2)
            .sameSlates();
        edge("5: 2 - behind a full slate").desk(0, 8).desk(1, 2, 2, 2, 2, 2, 2, 2, 2).desk(2, 2).ready()
            .share(0, 1, 8, NO_PLACE).counts(2, 2, 2).sameSlates();
        edge("5: 2 - far off").desk(0, 8).desk(1, 2).ready().share(0, 1, MIN, NO_PLACE).share(0, 1, MAX, NO_PLACE)
            .counts(4, 4, 4).sameSlates();
        edge("5: 3").desk(0, 8, 6).desk(1, 2, 0).ready().share(0, 1, 1, BY_NOTHING).counts(2, 2, 2).deepest(2)
            .sameSlates();
    }

    private static void promise6() {
        edge("6: a is held; for each of its places b is held, just for that").desk(0, 8, 9, 10).desk(1, 2, 3, 5).ready()
            .spread(0, 1, 3).counts(4, 4, 0).deepest(2);
        edge("6: its NUMBER there becomes more: how many places - one").desk(0, 8).desk(1, 2).spread(0, 1, 1)
            .slate(0, 8).slate(1, 6);
        edge("6: its NUMBER there becomes more: how many places - eight").desk(6, 1, 2, 3, 4, 5, 6, 7, 8)
            .desk(7, 1, 1, 1, 1, 1, 1, 1, 1).ready().spread(6, 7, 8).counts(9, 9, 0).slate(7, 2, 3, 4, 5, 6, 7, 8, 9)
            .slate(6, 1, 2, 3, 4, 5, 6, 7, 8);
        edge("6: each of a's places - b has more").desk(0, 8).desk(1, 2, 0, 7).spread(0, 1, 1).slate(1, 6, 0, 7);
        edge("6: a's quotient by what b's is - below 0").desk(0, -9, 9, -9).desk(1, 2, -2, -2).spread(0, 1, 3)
            .slate(1, -2, -6, 2);
        edge("6: a's quotient by what b's is - of 0, and cut to 0").desk(0, 0, 3).desk(1, 4, 5).spread(0, 1, 2)
            .slate(1, 4, 5);
        edge("6: a's quotient by what b's is - comes to 0").desk(0, -4).desk(1, 2).spread(0, 1, 1).slate(1, 0)
            .spread(0, 1, BY_NOTHING).slate(1, 0);
        edge("6: BAD - a too small, too large").desk(0, 8).ready().spread(-1, 0, BAD).spread(8, 0, BAD)
            .spread(MIN, 0, BAD).spread(MAX, 0, BAD).same();
        edge("6: BAD - b too small, too large").desk(0, 8).ready().spread(0, -1, BAD).spread(0, 8, BAD)
            .spread(0, MIN, BAD).spread(0, MAX, BAD).same();
    }

    private static void promise6WithItself() {
        edge("6: a may be b - each becomes 1 more").desk(4, 8, -8, 1).ready().spread(4, 4, 3).counts(4, 4, 0).deepest(2)
            .slate(4, 9, -7, 2);
        edge("6: a may be b - it wraps").desk(4, MAX).spread(4, 4, 1).slate(4, MIN);
        edge("6: a may be b - by 0: what was done before stays").desk(4, 8, 0, 5).ready().spread(4, 4, BY_NOTHING)
            .counts(3, 3, 2).slate(4, 9, 0, 5);
        edge("6: a may be b - which is not there").ready().spread(4, 4, NOT_THERE).counts(1, 0, 0);
    }

    private static void promise6BreaksOff() {
        edge("6: 1 - a is not there: b is not asked for").desk(1, 2).ready().spread(0, 1, NOT_THERE).counts(1, 0, 0)
            .sameSlates();
        edge("6: 1 - b is not there: asked for once").desk(0, 8, 8, 8).ready().spread(0, 1, NOT_THERE).counts(2, 1, 1)
            .deepest(1).sameSlates();
        edge("6: 1 - neither is there").ready().spread(0, 1, NOT_THERE).counts(1, 0, 0);
        edge("6: 2 - b has fewer places: those before stay done").desk(0, 8, 8, 8, 8).desk(1, 2, 4).ready()
            .spread(0, 1, NO_PLACE).counts(4, 4, 2).slate(1, 6, 6);
        edge("6: 2 - b has one place, a eight").desk(0, 8, 8, 8, 8, 8, 8, 8, 8).desk(1, 2).desk(2, 2).ready()
            .spread(0, 1, NO_PLACE).counts(3, 3, 2).slate(1, 6).slate(2, 2);
        edge("6: 3 - at the first place").desk(0, 8, 8).desk(1, 0, 2).ready().spread(0, 1, BY_NOTHING).counts(2, 2, 2)
            .sameSlates();
        edge("6: 3 - at the last place: those before stay done").desk(0, 8, 8).desk(1, 2, 0).ready()
            .spread(0, 1, BY_NOTHING).counts(3, 3, 2).slate(1, 6, 0);
        edge("6: 3 ahead of a 2 behind it").desk(0, 8, 8).desk(1, 0).spread(0, 1, BY_NOTHING);
        edge("6: 3 - not by a 0 of b behind a's last place").desk(0, 8).desk(1, 2, 0).spread(0, 1, 1);
    }

    private static void promise7() {
        edge("7: held n times (1 to 12) - 1").desk(5, 9, 8).ready().climb(5, 1, 1).counts(1, 1, 0).deepest(1).sum(9)
            .sameSlates();
        edge("7: held n times (1 to 12) - as often as it has places").open(5, 8, 1).ready().climb(5, 8, 8)
            .counts(8, 8, 0).deepest(8).slate(5, 0, 1, 2, 3, 4, 5, 6, 7);
        edge("7: each HOLD within the one ahead").open(5, 4, 1).climb(5, 3, 3).deepest(3);
        edge("7: the NUMBER at place k becomes k more").desk(5, 10, 10, 10, 10).climb(5, 3, 3).slate(5, 10, 11, 12, 10)
            .climb(5, 4, 4).slate(5, 10, 12, 14, 13);
        edge("7: in the innermost one, behind that, SUM becomes more by that at place 0").desk(5, 10, 20, 30)
            .climb(5, 3, 3).sum(10).climb(5, 2, 2).sum(20);
        edge("7: SUM becomes more - by one below 0").desk(5, -10, 20).climb(5, 2, 2).sum(-10);
        edge("7: BAD - n too small").desk(5, 9).ready().climb(5, 0, BAD).climb(5, -1, BAD).climb(5, MIN, BAD).same();
        edge("7: BAD - n too large").desk(5, 9).ready().climb(5, 13, BAD).climb(5, MAX, BAD).same();
        edge("7: BAD - desk too small").desk(0, 9).ready().climb(-1, 1, BAD).climb(MIN, 1, BAD).same();
        edge("7: BAD - desk too large").desk(7, 9).ready().climb(8, 1, BAD).climb(MAX, 1, BAD).same();
    }

    private static void promise7BreaksOff() {
        edge("7: 1 - asked for once, however often it would be held").ready().climb(5, 12, NOT_THERE).counts(1, 0, 0)
            .deepest(0).sum(0);
        edge("7: 2 - one HOLD more than places").desk(5, 9, 8).ready().climb(5, 3, NO_PLACE).counts(3, 3, 3).deepest(3)
            .slate(5, 9, 9).sum(0);
        edge("7: 2 - a slate of one").desk(5, 9).ready().climb(5, 2, NO_PLACE).counts(2, 2, 2).slate(5, 9).sum(0);
        edge("7: 2 - 12 is not BAD").desk(5, 9, 8).ready().climb(5, 12, NO_PLACE).counts(3, 3, 3).slate(5, 9, 9).sum(0);
        edge("7: 2 - a full slate, 9").open(5, 8, 1).ready().climb(5, 9, NO_PLACE).counts(9, 9, 9).deepest(9)
            .slate(5, 0, 1, 2, 3, 4, 5, 6, 7);
        edge("7: 2 - a full slate, 12; the next DESK's stays").desk(5, 1, 1, 1, 1, 1, 1, 1, 1).desk(6, 3, 3, 3, 3)
            .ready().climb(5, 12, NO_PLACE).counts(9, 9, 9).deepest(9).slate(5, 1, 2, 3, 4, 5, 6, 7, 8)
            .slate(6, 3, 3, 3, 3).sum(0);
    }

    private static void promise8() {
        edge("8: 8 times the DESK and the place - the least").desk(0, 5).find(5, 0);
        edge("8: 8 times the DESK and the place - the greatest").desk(7, 0, 0, 0, 0, 0, 0, 0, 5).find(5, 63);
        edge("8: 8 times the DESK and the place - also of small slates").desk(1, 0, 0).desk(2, 0, 5).find(5, 17);
        edge("8: from 0 on: at the first NUMBER that is v").desk(3, 1, 5, 5).find(5, 25);
        edge("8: one behind the other - from DESK 0 on").desk(6, 5).desk(2, 1, 5).find(5, 17);
        edge("8: NONE - no DESK is there").find(0, NONE).asked(0);
        edge("8: NONE - it is on no SLATE").desk(0, 1).desk(7, 2).find(3, NONE);
        edge("8: NONE - 0 is looked for as others are").desk(0, 1, 2).find(0, NONE).write(0, 1, 0, 1).find(0, 1);
        edge("8: NONE - a closed DESK's NUMBERS").desk(0, 5).close(0, 1).find(5, NONE);
        edge("8: NONE - behind a smaller SLATE's end").desk(0, 1, 5).close(0, 1).open(0, 1, 1).find(5, NONE);
        edge("8: v - the least, the greatest, -1").desk(0, MIN, MAX, -1).find(MIN, 0).find(MAX, 1).find(-1, 2);
        edge("8: v - near to one that is there").desk(0, 5).find(4, NONE).find(6, NONE).find(-5, NONE);
    }

    private static void promise8Holds() {
        edge("8: The DESKS that are there are held - no others").desk(1, 5).desk(4, 5).ready().find(6, NONE)
            .counts(2, 2, 0);
        edge("8: The DESKS that are there are held - all eight").desksFrom(0, 1, 2, 3, 4, 5, 6, 7, 8).ready()
            .find(9, NONE).counts(8, 8, 0);
        edge("8: held one behind the other - none within another").desksFrom(0, 1, 2, 3).find(3, 16).deepest(1);
        edge("8: once for all its places").desk(1, 5, 6, 7).ready().find(7, 10).counts(1, 1, 0);
        edge("8: it ends - the DESKS behind are not held").desksFrom(0, 1, 2, 3).ready().find(2, 8).counts(2, 2, 0);
        edge("8: it ends - none is BROKEN, nothing changes").desksFrom(0, 1, 2, 3).ready().find(1, 0).counts(1, 1, 0)
            .sameSlates().hand(0).sum(0);
    }

    private static void promise9() {
        edge("9: n times (1 to 20) - 1").desksFrom(1, 2, 2).ready().rounds(1, false, 1).counts(1, 1, 0).deepest(1)
            .slate(1, 3).slate(2, 2).hand(1);
        edge("9: n times (1 to 20) - 20").desksFrom(0, 2, 2, 2, 2, 2, 2, 2, 2).ready().rounds(20, false, 20)
            .counts(20, 20, 0).deepest(1);
        edge("9: n times (1 to 20) - 20 that pass").ready().rounds(20, true, 0).counts(20, 0, 0).hand(4);
        edge("9: its NUMBER at place 0, and no other").desk(1, 2, 7, 7).rounds(1, false, 1).slate(1, 3, 7, 7);
        edge("9: How many NUMBERS became more - one more than once").desk(1, 2).rounds(9, true, 2).slate(1, 4).hand(2);
        edge("9: rounds leave SUM").desk(1, 2).rounds(1, false, 1).sum(0);
        edge("9: BAD - too small").desksFrom(1, 2).ready().rounds(0, true, BAD).rounds(0, false, BAD)
            .rounds(-1, true, BAD).rounds(MIN, false, BAD).same();
        edge("9: BAD - too large").desksFrom(1, 2).ready().rounds(21, true, BAD).rounds(21, false, BAD)
            .rounds(MAX, true, BAD).same();
    }

    private static void promise9Hand() {
        edge("9: THE HAND goes to the next DESK - ahead of the work").desksFrom(0, 2, 2).rounds(1, false, 1).slate(0, 2)
            .slate(1, 3).hand(1);
        edge("9: THE HAND goes to the next DESK (0 behind 7)").desk(0, 2).desk(7, 2).rounds(7, true, 1).hand(7)
            .rounds(1, false, 1).hand(0).slate(0, 3);
        edge("9: if it is even then, THE HAND goes on once more").desksFrom(1, 1, 2, 2).rounds(2, false, 2).slate(1, 2)
            .slate(2, 2).slate(3, 3).hand(3);
        edge("9: if it is even - in the last round too").desk(1, 1).rounds(1, false, 1).hand(2);
        edge("9: if it is even - once, not till it is odd").desksFrom(1, 1, 1, 1).rounds(1, false, 1).hand(2)
            .slate(2, 1);
        edge("9: if it is even - from 7 it goes on to 0").desk(7, 1).desk(0, 2).desk(1, 2).rounds(7, true, 2).hand(0)
            .slate(1, 3).slate(7, 2).slate(0, 2);
        edge("9: if it is even - from 6 it goes on to 7, and then to 0").desk(6, 1).desk(7, 2).desk(0, 2)
            .rounds(7, true, 2).slate(6, 2).slate(7, 2).slate(0, 3).hand(0);
        edge("9: if it is even - below 0").desk(1, -3).rounds(1, false, 1).slate(1, -2).hand(2);
        edge("9: if it is even - the least one").desk(1, MAX).rounds(1, false, 1).slate(1, MIN).hand(2);
        edge("9: if it is odd - below 0 THE HAND stays").desk(1, -2).rounds(1, false, 1).slate(1, -1).hand(1);
        edge("9: if it is even then, not if it was").desk(1, 4).rounds(1, false, 1).slate(1, 5).hand(1);
        edge("9: THE HAND goes on over a DESK that is not there, unasked").desk(1, 1).desk(3, 2).ready()
            .rounds(2, false, 2).counts(2, 2, 0).slate(3, 3).hand(3);
    }

    private static void promise9Ends() {
        edge("9: if that is 0 then, nothing more is done").desksFrom(1, 2, -1, 2).ready().rounds(9, false, 2)
            .counts(2, 2, 0).slate(1, 3).slate(2, 0).slate(3, 2);
        edge("9: if that is 0 - THE HAND does not go on, though 0 is even").desk(1, -1).rounds(1, false, 1).hand(1);
        edge("9: if that is 0 - in the first round").desksFrom(1, -1, 2).ready().rounds(20, true, 1).counts(1, 1, 0)
            .slate(1, 0).slate(2, 2).hand(1);
        edge("9: if that is 0 then, not if it was").desksFrom(1, 0, 2).rounds(2, false, 2).slate(1, 1).slate(2, 3)
            .hand(2);
        edge("9: if that is 0 - the next call goes on from there").desksFrom(1, -1, 2).rounds(5, true, 1)
            .rounds(1, false, 1).slate(2, 3).hand(2);
        edge("9: if that is 0 - no FAILURE of DESKS behind it").desk(1, -1).rounds(2, false, 1).told(2, 0);
    }

    private static void promise9WhereNoDeskIs() {
        edge("9: with passes it is passed by").desk(1, 2).desk(3, 2).ready().rounds(3, true, 2).counts(3, 2, 0)
            .slate(1, 3).slate(3, 3).hand(3);
        edge("9: with passes - it is one of the n times").desk(1, 2).desk(4, 2).rounds(3, true, 1).slate(4, 2).hand(3);
        edge("9: with passes - none is there: 0").ready().rounds(1, true, 0).counts(1, 0, 0).deepest(0).hand(1);
        edge("9: with passes - all are there").desksFrom(0, 2, 2, 2, 2, 2, 2, 2, 2).ready().rounds(8, true, 8)
            .counts(8, 8, 0);
        edge("9: without, FAILURE 1 - at once: THE HAND has gone").desk(0, 2).ready().rounds(5, false, NOT_THERE)
            .counts(1, 0, 0).sameSlates().hand(1);
        edge("9: without, FAILURE 1 - what was done stays, no HOLD is BROKEN").desksFrom(1, 2, 1).ready()
            .rounds(5, false, NOT_THERE).counts(3, 2, 0).slate(1, 3).slate(2, 2).hand(4);
        edge("9: without, FAILURE 1 - in the last round").desk(1, 2).rounds(2, false, NOT_THERE).slate(1, 3).hand(2);
        edge("9: without, FAILURE 1 - the next call goes on from there").desk(2, 2).rounds(2, false, NOT_THERE)
            .rounds(1, false, 1).slate(2, 3).hand(2);
        edge("9: without, FAILURE 1 - a DESK that was closed").desksFrom(1, 2, 2).close(1, 1).ready()
            .rounds(2, false, NOT_THERE).counts(1, 0, 0).slate(2, 2);
    }

    private static void promise10() {
        edge("10: A DESK is held").desk(6, 3, 4).ready().bring(6, false, 2).counts(1, 1, 0).deepest(1);
        edge("10: taken to SUM, and are 0 then: how many - one").desk(6, 3).bring(6, false, 1).slate(6, 0).sum(3);
        edge("10: taken to SUM, and are 0 then: how many - eight").desk(6, 1, 2, 3, 4, 5, 6, 7, 8).desk(7, 9)
            .bring(6, false, 8).slate(6, 0, 0, 0, 0, 0, 0, 0, 0).slate(7, 9).sum(36);
        edge("10: one below 0 is the last one that is taken - the first").desk(6, -3, 4).bring(6, false, 1)
            .slate(6, 0, 4).sum(-3);
        edge("10: one below 0 is the last one that is taken - in the midst").desk(6, 9, -3, 4, -5).bring(6, false, 2)
            .slate(6, 0, 0, 4, -5).sum(6);
        edge("10: one below 0 is the last one that is taken - the last").desk(6, 9, 4, -3).bring(6, false, 3)
            .slate(6, 0, 0, 0).sum(10);
        edge("10: one below 0 - 0 is not").desk(6, 0, 0, 5).bring(6, false, 3).slate(6, 0, 0, 0).sum(5);
        edge("10: one below 0 - -1 is").desk(6, -1, 5).bring(6, false, 1).slate(6, 0, 5).sum(-1);
        edge("10: one below 0 - the least is").desk(6, MIN, 5).bring(6, false, 1).slate(6, 0, 5).sum(MIN);
        edge("10: NUMBERS that are 0 are taken too").open(6, 4, 1).bring(6, false, 4).sum(0);
        edge("10: again - what was not taken").desk(6, -3, 4).bring(6, false, 1).bring(6, false, 2).slate(6, 0, 0)
            .sum(1);
        edge("10: BAD - too small").desk(0, 3).ready().bring(-1, false, BAD).bring(-1, true, BAD)
            .bring(MIN, false, BAD).same();
        edge("10: BAD - too large").desk(7, 3).ready().bring(8, false, BAD).bring(8, true, BAD).bring(MAX, true, BAD)
            .same();
        edge("10: 1").desk(0, 3).ready().bring(6, false, NOT_THERE).bring(6, true, NOT_THERE).counts(2, 0, 0).sum(0)
            .sameSlates();
    }

    private static void promise10Keeps() {
        edge("10: with keeps these are as they were again").desk(6, 3, 4).ready().bring(6, true, 2).counts(1, 1, 0)
            .sameSlates().sum(7);
        edge("10: with keeps - one below 0 is the last one taken").desk(6, 3, -4, 5).ready().bring(6, true, 2)
            .sameSlates().sum(-1);
        edge("10: with keeps - SUM is not as it was again").desk(6, 3).bring(6, true, 1).bring(6, true, 1).sum(6)
            .slate(6, 3);
        edge("10: with keeps - eight").desk(6, 1, 2, 3, 4, 5, 6, 7, 8).ready().bring(6, true, 8).sameSlates().sum(36);
        edge("10: with keeps - as they were, not as they were once").desk(6, 3, 4).bring(6, true, 2).write(6, 0, 5, 1)
            .bring(6, true, 2).slate(6, 5, 4).sum(16);
    }

    private static void promise11() {
        edge("11: The NUMBER at a place - the first and the last").desk(0, 1, 2).desk(7, 3, 4, 5, 6, 7, 8, 9, 10)
            .number(0, 0, 1).number(0, 1, 2).number(7, 0, 3).number(7, 7, 10);
        edge("11: The NUMBER at a place - below 0, the least and the greatest int").desk(0, -1, MIN, MAX)
            .number(0, 0, -1).number(0, 1, MIN).number(0, 2, MAX);
        edge("11: which is not held for it").desk(0, 1).ready().number(0, 0, 1).number(0, 1, Checks.LEAST)
            .number(1, 0, Checks.LEAST).number(8, 0, Checks.LEAST).same();
        edge("11: the least long - one behind the last place").desk(0, 1, 2).desk(1, 3).number(0, 2, Checks.LEAST);
        edge("11: the least long - behind a full slate").desk(0, 1, 2, 3, 4, 5, 6, 7, 8).desk(1, 3)
            .number(0, 8, Checks.LEAST);
        edge("11: the least long - a place below 0").desk(0, 1, 2, 3, 4, 5, 6, 7, 8).desk(1, 3)
            .number(1, -1, Checks.LEAST).number(0, -1, Checks.LEAST);
        edge("11: the least long - a place far off").desk(0, 1).number(0, MIN, Checks.LEAST)
            .number(0, MAX, Checks.LEAST);
        edge("11: the least long - the DESK is not there").desk(0, 1).number(1, 0, Checks.LEAST).close(0, 1)
            .number(0, 0, Checks.LEAST);
        edge("11: the least long - no DESK").desk(0, 1).desk(7, 1).number(-1, 0, Checks.LEAST)
            .number(8, 0, Checks.LEAST).number(-1, 8, Checks.LEAST).number(8, -8, Checks.LEAST)
            .number(MIN, 0, Checks.LEAST).number(MAX, 0, Checks.LEAST);
    }

    private static void promise12() {
        // Each of the eight is another number here, so that one told for another is seen.
        Trial room = edge("12: 0 to 7, each its own").desk(1, 13, 30).desk(2, 50).desk(3, 5).desk(4, 7).desk(5, 8)
            .desk(0, 2).write(1, 2, 0, NO_PLACE).write(6, 0, 0, NOT_THERE).climb(1, 2, 2).climb(1, 4, NO_PLACE)
            .rounds(3, false, 3).ready();
        room.told(0, 17).told(1, 16).told(2, 4).told(3, 0).told(4, 3).told(5, 5).told(6, 6).told(7, 13);
        room.same();
        edge("12: BAD - too small").told(-1, BAD).told(MIN, BAD);
        edge("12: BAD - too large").told(8, BAD).told(MAX, BAD);
        edge("12: told asks for none and changes nothing").desk(1, 3).ready().told(-1, BAD).told(8, BAD).same();
        edge("12: 6 DESKS that are there - none, all, and fewer again").there(0).desksFrom(0, 1, 1, 1, 1, 1, 1, 1, 1)
            .there(8).close(3, 1).close(3, 0).there(7);
    }
}
