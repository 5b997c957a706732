/** The document's section "Terms", sentence by sentence: each has a run of its own that fails if it is broken. */
public final class TermsTest {
    private static final int BAD = Trial.BAD, NONE = Trial.NONE;
    private static final int NOT_THERE = Trial.NOT_THERE, NO_PLACE = Trial.NO_PLACE, BY_NOTHING = Trial.BY_NOTHING;
    private static final int MIN = Trial.MIN, MAX = Trial.MAX;
    private static final Checks CHECKS = new Checks();

    public static void main(String[] args) {
        desks();
        slates();
        numbersWrap();
        theHand();
        theSum();
        toHold();
        depth();
        heldAgainWithin();
        broken();
        failureOfPlaces();
        failureOfQuotients();
        whatFailuresEnd();
        whatFailuresAnswer();
        badComesFirst();
        badChangesNothing();
        callsOfOneObject();
        CHECKS.end();
    }

    private static Trial edge(String sentence) {
        return new Trial(CHECKS, "Terms: " + sentence);
    }

    private static void desks() {
        edge("DESKS 0 to 7 - the least one").desk(0, 5).slate(0, 5).there(1);
        edge("DESKS 0 to 7 - the greatest one").desk(7, 5).slate(7, 5).there(1);
        edge("DESKS 0 to 7 - one too small").open(-1, 1, BAD).there(0);
        edge("DESKS 0 to 7 - one too large").open(8, 1, BAD).there(0);
        Trial all = edge("DESKS 0 to 7 - all at once").desksFrom(0, 10, 11, 12, 13, 14, 15, 16, 17).there(8);
        for (int desk = 0; desk < 8; desk++) {
            all.slate(desk, 10 + desk);
        }
        Trial none = edge("there or not (at first none)").there(0);
        for (int desk = 0; desk < 8; desk++) {
            none.slate(desk).write(desk, 0, 1, NOT_THERE);
        }
    }

    private static void slates() {
        edge("a SLATE of 1 to 8 NUMBERS - 1").open(3, 1, 1).slate(3, 0);
        edge("a SLATE of 1 to 8 NUMBERS - 8").open(3, 8, 1).slate(3, 0, 0, 0, 0, 0, 0, 0, 0);
        edge("a SLATE of 1 to 8 NUMBERS - 0 are too few").open(3, 0, BAD).slate(3).there(0);
        edge("a SLATE of 1 to 8 NUMBERS - 9 are too many").open(3, 9, BAD).slate(3).there(0);
        edge("NUMBERS (0 at first) - also where others stood before").desk(3, 4, 5, 6).close(3, 1).open(3, 8, 1)
            .slate(3, 0, 0, 0, 0, 0, 0, 0, 0);
        edge("at places 0, 1, ... - full slates lie apart")
            .desk(2, 1, 2, 3, 4, 5, 6, 7, 8).desk(3, 11, 12, 13, 14, 15, 16, 17, 18).desk(4, 21, 22)
            .slate(2, 1, 2, 3, 4, 5, 6, 7, 8).slate(3, 11, 12, 13, 14, 15, 16, 17, 18).slate(4, 21, 22);
        edge("at places 0, 1, ... - none ahead of 0").desk(2, 1).desk(3, 2).number(3, -1, Checks.LEAST);
    }

    private static void numbersWrap() {
        edge("NUMBERS (ints that wrap) - share").desk(0, MIN).desk(1, -1).share(0, 1, 0, 1).slate(0, MIN);
        edge("NUMBERS (ints that wrap) - share with itself").desk(0, -1, MIN, MIN).share(0, 0, 0, 3)
            .slate(0, 1, MIN, MIN);
        edge("NUMBERS (ints that wrap) - spread's sum").desk(0, MAX).desk(1, MAX).spread(0, 1, 1).slate(1, MIN);
        edge("NUMBERS (ints that wrap) - spread's sum below").desk(0, MAX).desk(1, MIN + 1).spread(0, 1, 1)
            .slate(1, MIN);
        edge("NUMBERS (ints that wrap) - spread's quotient").desk(0, MIN).desk(1, -1).spread(0, 1, 1).slate(1, MAX);
        edge("NUMBERS (ints that wrap) - climb").desk(0, 0, MAX, MAX - 1).climb(0, 3, 3).slate(0, 0, MIN, MIN);
        edge("NUMBERS (ints that wrap) - rounds").desk(1, MAX).rounds(1, false, 1).slate(1, MIN);
    }

    private static void theHand() {
        edge("THE HAND points to a DESK (0 at first)").hand(0);
        edge("THE HAND points to a DESK (there or not)").rounds(3, true, 0).hand(3).there(0);
        edge("THE HAND points to a DESK - which is closed").desk(1, 2).rounds(1, false, 1).hand(1).close(1, 1).hand(1);
        edge("THE HAND points to a DESK - which is opened").rounds(5, true, 0).open(5, 1, 1).open(6, 1, 1).hand(5);
    }

    private static void theSum() {
        edge("THE BOOK has a SUM (0 at first)").sum(0);
        // 64 bits can't come to wrap in 512 calls of at most 8 ints each; that they are more than 32 can be seen.
        edge("a SUM (64 bits) - above 32 bits").desk(0, MAX, MAX, MAX).bring(0, true, 3).sum(3L * MAX)
            .bring(0, true, 3).sum(6L * MAX);
        edge("a SUM (64 bits) - below 32 bits").desk(0, MIN).bring(0, true, 1).bring(0, true, 1).bring(0, true, 1)
            .sum(3L * MIN);
        edge("a SUM (64 bits) - by climb").desk(0, MAX).climb(0, 1, 1).climb(0, 1, 1).climb(0, 1, 1).sum(3L * MAX);
        edge("a SUM (64 bits) - by climb, below").desk(0, MIN).climb(0, 1, 1).climb(0, 1, 1).sum(2L * MIN);
        Trial most = edge("a SUM (64 bits) - the most that 512 calls can bring")
            .desk(0, MAX, MAX, MAX, MAX, MAX, MAX, MAX, MAX);
        for (int i = 0; i < 500; i++) {
            most.bring(0, true, 8);
        }
        most.sum(4000L * MAX);
    }

    private static void toHold() {
        edge("ASKED is 1 more; if it is not there, FAILURE 1").ready().write(4, 0, 1, NOT_THERE).counts(1, 0, 0);
        edge("ASKED is 1 more - and HELD, if it is there").desk(4, 1).ready().write(4, 0, 2, 1).counts(1, 1, 0);
        edge("ASKED is 1 more - though the DESK was there once").desk(4, 1).close(4, 1).ready()
            .bring(4, false, NOT_THERE).counts(1, 0, 0);
        edge("a DESK that is not there makes nothing deeper").write(4, 0, 1, NOT_THERE).deepest(0)
            .desk(1, 1).share(1, 4, 0, NOT_THERE).deepest(1);
    }

    private static void depth() {
        edge("DEPTH 1 more till that is done").desk(0, 6).desk(1, 3).told(3, 0).share(0, 1, 0, 1).told(3, 0)
            .spread(0, 1, 1).told(3, 0).climb(0, 1, 1).told(3, 0).find(99, NONE).told(3, 0).rounds(1, true, 1)
            .told(3, 0).bring(0, false, 1).told(3, 0);
        edge("DEPTH 1 more till that is done - by a FAILURE").desk(0, 6).desk(1, 0).write(0, 1, 1, NO_PLACE).told(3, 0)
            .share(0, 1, 0, BY_NOTHING).told(3, 0).share(0, 2, 0, NOT_THERE).told(3, 0).spread(0, 1, BY_NOTHING)
            .told(3, 0).climb(0, 12, NO_PLACE).told(3, 0).rounds(9, false, NOT_THERE).told(3, 0);
        edge("DEEPEST is the greatest DEPTH ever - it does not fall").open(0, 8, 1).climb(0, 5, 5).deepest(5)
            .write(0, 0, 1, 1).climb(0, 4, 4).close(0, 1).deepest(5);
        edge("DEEPEST is the greatest DEPTH ever - it rises").open(0, 8, 1).deepest(0).climb(0, 1, 1).deepest(1)
            .climb(0, 5, 5).deepest(5).climb(0, 6, 6).deepest(6);
        edge("DEEPEST is the greatest DEPTH ever - DEPTHS of two calls do not add up").open(0, 8, 1)
            .climb(0, 5, 5).climb(0, 5, 5).deepest(5);
        edge("DEEPEST is the greatest DEPTH ever - of BROKEN HOLDS too").open(0, 2, 1).climb(0, 5, NO_PLACE).deepest(3)
            .climb(0, 5, NO_PLACE).deepest(3);
    }

    private static void heldAgainWithin() {
        edge("a DESK may be held again within - share").desk(0, 8, 4).ready().share(0, 0, 1, 2).counts(2, 2, 0)
            .slate(0, 2, 1).deepest(2);
        edge("a DESK may be held again within - spread").desk(0, 8, 4).ready().spread(0, 0, 2).counts(3, 3, 0)
            .slate(0, 9, 5).deepest(2);
        edge("a DESK may be held again within - climb").desk(0, 8, 4).ready().climb(0, 2, 2).counts(2, 2, 0)
            .slate(0, 8, 5).deepest(2);
    }

    private static void broken() {
        edge("A HOLD out of which a FAILURE comes is BROKEN").desk(0, 1).ready().write(0, 1, 1, NO_PLACE)
            .counts(1, 1, 1);
        edge("A HOLD .. is BROKEN - the inner one and the outer one").desk(0, 1).desk(1, 0).ready()
            .share(0, 1, 0, BY_NOTHING).counts(2, 2, 2);
        edge("A HOLD .. is BROKEN - both of the same DESK").desk(0, 0).ready().share(0, 0, 0, BY_NOTHING)
            .counts(2, 2, 2);
        edge("A HOLD .. is BROKEN - all that stand open").open(0, 8, 1).ready().climb(0, 9, NO_PLACE).counts(9, 9, 9);
        edge("A HOLD .. is BROKEN - not one that has ended").desk(0, 1, 1, 1).desk(1, 1, 1, 0).ready()
            .spread(0, 1, BY_NOTHING).counts(4, 4, 2);
        edge("A HOLD .. is BROKEN - not one that did not begin").ready().write(0, 0, 1, NOT_THERE)
            .share(0, 1, 0, NOT_THERE).spread(0, 1, NOT_THERE).climb(0, 3, NOT_THERE).bring(0, true, NOT_THERE)
            .rounds(1, false, NOT_THERE).counts(6, 0, 0);
        edge("A HOLD .. is BROKEN - the outer one alone, where the inner did not begin").desk(0, 1).ready()
            .share(0, 1, 0, NOT_THERE).counts(2, 1, 1).spread(0, 1, NOT_THERE).counts(4, 2, 2);
        edge("A HOLD .. is BROKEN - none by an answer below 0").desk(0, -12, -13).ready().find(-12, 0).find(-13, 1)
            .find(-11, NONE).bring(0, true, 1).counts(4, 4, 0);
    }

    private static void failureOfPlaces() {
        edge("FAILURE 2, if there is no such place - the last one is").desk(0, 1, 2).write(0, 1, 3, 1).slate(0, 1, 3);
        edge("FAILURE 2, if there is no such place - one behind it").desk(0, 1, 2).desk(1, 3).ready()
            .write(0, 2, 3, NO_PLACE).sameSlates();
        edge("FAILURE 2, if there is no such place - one ahead of 0").desk(0, 1, 2, 3, 4, 5, 6, 7, 8).desk(1, 3).ready()
            .write(1, -1, 9, NO_PLACE).sameSlates();
        edge("FAILURE 2, if there is no such place - behind a full slate").desk(0, 1, 2, 3, 4, 5, 6, 7, 8).desk(1, 3)
            .ready().write(0, 8, 9, NO_PLACE).sameSlates();
        edge("FAILURE 2, if there is no such place - far off").desk(0, 1).ready().write(0, MIN, 9, NO_PLACE)
            .write(0, MAX, 9, NO_PLACE).write(0, 1 << 29, 9, NO_PLACE).sameSlates().counts(3, 3, 3);
        edge("FAILURE 2, if there is no such place - any more").desk(0, 1, 2).close(0, 1).open(0, 1, 1)
            .write(0, 1, 9, NO_PLACE);
    }

    private static void failureOfQuotients() {
        edge("A quotient (cut) - above 0").desk(0, 7, 8, 2).desk(1, 3).share(0, 1, 0, 3).slate(0, 2, 2, 0);
        edge("A quotient (cut) - below 0").desk(0, -7, -8, -2).desk(1, 3).share(0, 1, 0, 3).slate(0, -2, -2, 0);
        edge("A quotient (cut) - by one below 0").desk(0, 7, -7, 2).desk(1, -3).share(0, 1, 0, 3).slate(0, -2, 2, 0);
        edge("A quotient (cut) - spread").desk(0, -7, 7).desk(1, 2, -2).spread(0, 1, 2).slate(1, -1, -5);
        edge("A quotient by 0: FAILURE 3 - share").desk(0, 1).desk(1, 0).share(0, 1, 0, BY_NOTHING).slate(0, 1);
        edge("A quotient by 0: FAILURE 3 - share 0 by 0").desk(0, 0).desk(1, 0).share(0, 1, 0, BY_NOTHING);
        edge("A quotient by 0: FAILURE 3 - spread").desk(0, 1).desk(1, 0).spread(0, 1, BY_NOTHING).slate(1, 0);
        edge("A quotient by 0: FAILURE 3 - spread 0 by 0").desk(0, 0).desk(1, 0).spread(0, 1, BY_NOTHING);
        edge("A quotient by 0 - one of 0 is none such").desk(0, 0).desk(1, 5).share(0, 1, 0, 1).slate(0, 0)
            .spread(0, 1, 1).slate(1, 5);
    }

    private static void whatFailuresEnd() {
        edge("A FAILURE ends all, but what was done before it stays - spread").desk(0, 9, 8, 7).desk(1, 3, 0, 1)
            .spread(0, 1, BY_NOTHING).slate(0, 9, 8, 7).slate(1, 6, 0, 1);
        edge("A FAILURE ends all, but what was done before it stays - climb").desk(0, 9, 8).climb(0, 3, NO_PLACE)
            .slate(0, 9, 9).sum(0);
        edge("A FAILURE ends all, but what was done before it stays - rounds").desksFrom(1, 2, 4).desk(4, 6)
            .rounds(4, false, NOT_THERE).slate(1, 3).slate(2, 5).slate(4, 6).hand(3);
        edge("A FAILURE ends the call alone - the next one is as ever").desk(0, 9).desk(1, 0).share(0, 1, 0, BY_NOTHING)
            .write(1, 0, 3, 1).share(0, 1, 0, 1).slate(0, 3);
    }

    private static void whatFailuresAnswer() {
        edge("-10 less its number - 1").write(0, 0, 0, -11);
        edge("-10 less its number - 2").open(0, 1, 1).write(0, 1, 0, -12);
        edge("-10 less its number - 3").open(0, 1, 1).share(0, 0, 0, -13);
    }

    private static void badComesFirst() {
        edge("BAD ahead of a FAILURE - write").write(8, -1, 1, BAD);
        edge("BAD ahead of a FAILURE - share's b, where a is not there").share(0, 8, 0, BAD);
        edge("BAD ahead of a FAILURE - share's a, where b is not there").share(-1, 0, 0, BAD);
        edge("BAD ahead of a FAILURE - share, where there is no place").open(0, 1, 1).share(0, 8, 5, BAD)
            .share(8, 0, 5, BAD);
        edge("BAD ahead of a FAILURE - spread's b, where a is not there").spread(0, 8, BAD);
        edge("BAD ahead of a FAILURE - spread's a, where b is not there").spread(-1, 0, BAD);
        edge("BAD ahead of a FAILURE - climb").climb(0, 13, BAD).climb(0, 0, BAD);
        edge("BAD ahead of a FAILURE - rounds").rounds(21, false, BAD).rounds(0, false, BAD);
        edge("BAD ahead of 0 - open").open(0, 1, 1).open(0, 9, BAD).open(0, 0, BAD);
    }

    private static void badChangesNothing() {
        for (int desk : new int[] {-1, 8, MIN, MAX}) {
            mixed("open").open(desk, 3, BAD).same();
            mixed("close").close(desk, BAD).same();
            mixed("write").write(desk, 0, 7, BAD).same();
            mixed("share's a").share(desk, 1, 0, BAD).same();
            mixed("share's b").share(0, desk, 0, BAD).same();
            mixed("spread's a").spread(desk, 1, BAD).same();
            mixed("spread's b").spread(0, desk, BAD).same();
            mixed("climb's desk").climb(desk, 2, BAD).same();
            mixed("bring").bring(desk, false, BAD).bring(desk, true, BAD).same();
            mixed("told").told(desk, BAD).same();
        }
        for (int n : new int[] {0, -1, MIN, MAX}) {
            mixed("open's size").open(4, n, BAD).open(0, n, BAD).same();
            mixed("climb's n").climb(0, n, BAD).same();
            mixed("rounds").rounds(n, true, BAD).rounds(n, false, BAD).same();
        }
        mixed("open's size").open(4, 9, BAD).open(0, 9, BAD).same();
        mixed("climb's n").climb(7, 13, BAD).same();
        mixed("rounds").rounds(21, true, BAD).rounds(21, false, BAD).same();
    }

    /** A room in which nothing is as it was at first. */
    private static Trial mixed(String call) {
        return edge("BAD: nothing is asked for, nothing changes - " + call)
            .desk(0, 12, -5, 7).desk(1, 3, 2).desk(7, 1, 2, 3, 4, 5, 6, 7, 8)
            .rounds(1, false, 1).rounds(1, false, NOT_THERE).climb(0, 3, 3).share(0, 5, 0, NOT_THERE).ready();
    }

    private static void callsOfOneObject() {
        Trial many = edge("at most 512 calls - the 512th is as the first").desksFrom(0, 1, 1, 1, 1, 1, 1, 1, 1);
        for (int i = 17; i <= 511; i++) {
            many.rounds(20, true, 20);
        }
        many.asked(8 + 495 * 20);
        Trial failing = edge("at most 512 calls - each of them a FAILURE").open(0, 8, 1);
        for (int i = 2; i <= 510; i++) {
            failing.climb(0, 12, NO_PLACE);
        }
        failing.told(2, 509 * 9).told(3, 0);
    }
}
