import java.util.Map;

/** The edges of the document's sentences on cutting, and of its promises 9, 10 and 20, each with a test of its own. */
public final class CuttingEdgesTest {
    private static final String ROWS = "000000" + "111000" + "111111" + "222222" + "222333" + "333333";

    public static void main(String[] args) {
        districtsNotFrozenYet();
        thePlayersTakeTurns();
        anOpenCellHasNoPart();
        theLowestCellIsToBlame();
        frozenCellsNeedNoPart();
        aPartHasAnotherSize();
        theLowestPartOfAnotherSizeIsToBlame();
        aPartIsNotConnected();
        notConnectedOverCornersAndEdges();
        notConnectedOverFrozenCells();
        connectedByTheLongestWay();
        theLowestPartNotConnectedIsToBlame();
        theFirstReasonThatHolds();
        whyIsRefused();
        proposeIsRefused();
        proposeReturnsK();
        onePartBecomesTheNextDistrict();
        theOtherPlayerFreezesIt();
        theLastPartIsFrozenAtOnce();
        twoPartsLeftAreNotFrozen();
        theNextDraftIsEmpty();
        aPartThatIsNone();
        freezeOrderOfErrors();
        Check.end("CuttingEdgesTest");
    }

    // "k is the number of districts that are not frozen yet."
    private static void districtsNotFrozenYet() {
        for (int n : Play.NUMBERS) {
            FrozenDistricts x = Check.made(y -> y.begin(n));
            for (int turn = 0; turn < n - 1; turn++) {
                Check.due("k of " + n + " at the turn " + turn, x.count(3), n - turn);
                Check.due("the part k - 1", x.part(n - turn - 1, 0), 0);
                Check.due("the part k", x.part(n - turn, 0), -1);
                Play.propose(x);
                Check.due("k while a cut is proposed", x.count(3), n - turn);
                Check.due("the part k - 1 of the cut", x.part(n - turn - 1, 0), 36 / n);
                Check.due("the part k of the cut", x.part(n - turn, 0), -1);
                x.freeze(0);
            }
            Check.due("k of " + n + " when all is done", x.count(3), 0);
            Check.due("no part when all is done", x.part(0, 0), -1);
        }
    }

    // "The players take turns: one of them cuts, the other one freezes; behind that it is the
    // other way round. The player 0 cuts first."
    private static void thePlayersTakeTurns() {
        for (int n : Play.NUMBERS) {
            FrozenDistricts x = Check.made(y -> y.begin(n));
            for (int turn = 0; turn < n - 1; turn++) {
                Check.due("who cuts at the turn " + turn + " of " + n, x.count(5), turn % 2);
                Check.due("to cut", x.count(4), 0);
                Play.draftCut(x);
                Check.due("who cuts when it is drafted", x.count(5), turn % 2);
                x.propose();
                Check.due("who freezes at the turn " + turn + " of " + n, x.count(5), 1 - turn % 2);
                Check.due("to freeze", x.count(4), 1);
                x.freeze(0);
            }
            Check.due("nobody when all is done", x.count(5), -5);
            Check.due("nothing when all is done", x.count(4), 2);
        }
    }

    // "1 an open cell has no part": each cell in turn is the one without
    private static void anOpenCellHasNoPart() {
        for (int cell = 0; cell < 36; cell++) {
            int each = cell;
            Check.Setup setup = x -> {
                x.snake(false);
                x.draft(each, -1);
            };
            because("without a part: " + cell, setup, 1, cell);
        }
    }

    // "what is to blame is the lowest cell (reason 1)"
    private static void theLowestCellIsToBlame() {
        because("all cells", x -> { }, 1, 0);
        because("all cells of nine parts", x -> x.begin(9), 1, 0);
        for (int cell = 0; cell < 35; cell++) {
            int each = cell;
            because("of two: " + cell, x -> {
                x.snake(true);
                x.draft(35, -1);
                x.draft(each, -1);
            }, 1, cell);
        }
        because("the last one alone is drafted", x -> x.draft(35, 0), 1, 0);
        because("the first one alone is drafted", x -> x.draft(0, 0), 1, 1);
    }

    // "for each open cell the number of a part": a frozen cell has none and is not to blame
    private static void frozenCellsNeedNoPart() {
        Check.Setup first = x -> Play.turn(x, 0);
        because("the first cells are frozen", first, 1, 6);
        because("the first cells are frozen, the others drafted", x -> {
            first.on(x);
            x.adopt();
        }, 0, -5);
        because("the first cells are frozen, the last has none", x -> {
            first.on(x);
            x.adopt();
            x.draft(35, -1);
        }, 1, 35);
    }

    // "2 a part has another size": too small, too large, or empty
    private static void aPartHasAnotherSize() {
        because("one too few, one too many", x -> {
            x.snake(false);
            x.draft(0, 1);
        }, 2, 0);
        because("one too many, one too few", x -> {
            x.snake(false);
            x.draft(6, 0);
        }, 2, 0);
        because("the part 0 has all", x -> all(x, 0), 2, 0);
        because("the part 0 is empty", x -> all(x, 3), 2, 0);
        because("the part 3 is empty", x -> Check.draftAll(x, ROWS.replace('3', '2')), 2, 2);
        because("of two parts, one too many", x -> {
            x.begin(2);
            x.snake(false);
            x.draft(18, 0);
        }, 2, 0);
        because("of two parts, the right size", x -> {
            x.begin(2);
            x.snake(false);
        }, 0, -5);
        because("the size that four parts have", x -> {
            x.begin(3);
            Check.draftAll(x, ROWS.replace('3', '2'));
        }, 2, 0);
    }

    // "or the lowest part (reasons 2 and 3)"
    private static void theLowestPartOfAnotherSizeIsToBlame() {
        for (int lower = 0; lower < 4; lower++) {
            for (int upper = lower + 1; upper < 4; upper++) {
                int smaller = lower;
                int larger = upper;
                int one = ROWS.indexOf('0' + lower);
                int other = ROWS.indexOf('0' + upper);
                because("the part " + lower + " is too small", x -> {
                    x.snake(false);
                    x.draft(one, larger);
                }, 2, lower);
                because("the part " + lower + " is too large", x -> {
                    x.snake(false);
                    x.draft(other, smaller);
                }, 2, lower);
            }
        }
        because("of nine, the part 7", x -> {
            x.begin(9);
            x.snake(false);
            x.draft(35, 8);
        }, 2, 7);
    }

    // "3 a part is not connected": in two pieces, in as many as it has cells
    private static void aPartIsNotConnected() {
        because("two pieces", x -> {
            x.snake(false);
            x.trade(0, 35);
        }, 3, 0);
        because("a chessboard", x -> {
            x.begin(2);
            for (int cell = 0; cell < 36; cell++) {
                x.draft(cell, (cell + cell / 6) % 2);
            }
        }, 3, 0);
        because("only the last part", x -> Check.draftAll(x,
            "000000" + "333000" + "111111" + "222111" + "222222" + "333333"), 3, 3);
        because("one around the other", x -> {
            x.begin(2);
            Check.draftAll(x, "111111" + "100001" + "100001" + "100001" + "100001" + "100111");
        }, 0, -5);
    }

    // "over cells of the part that are next to one another": a corner or the map's edge is no way
    private static void notConnectedOverCornersAndEdges() {
        because("a corner", x -> {
            x.begin(9);
            Check.draftAll(x, "001122" + "031122" + "304455" + "334455" + "667788" + "667788");
        }, 3, 0);
        because("from the right edge to the left one", x -> {
            x.begin(9);
            Check.draftAll(x, "000011" + "112222" + "333344" + "445555" + "666677" + "778888");
        }, 3, 1);
        because("from the lower edge to the upper one", x -> {
            x.begin(9);
            for (int cell = 0; cell < 36; cell++) {
                x.draft(cell, (cell % 6 * 6 + cell / 6) / 4);
            }
        }, 3, 1);
        because("from the top to the bottom", x -> {
            x.begin(3);
            Check.draftAll(x, "000000" + "111111" + "111111" + "222222" + "222222" + "000000");
        }, 3, 0);
    }

    // "over cells of the part": frozen cells and other parts are no way
    private static void notConnectedOverFrozenCells() {
        Check.Setup middle = x -> {
            x.begin(3);
            x.snake(false);
            x.propose();
            x.freeze(1);
        };
        because("a part on both sides of a frozen district", x -> {
            middle.on(x);
            x.snake(true);
        }, 3, 0);
        because("parts on one side each", x -> {
            middle.on(x);
            x.snake(false);
        }, 0, -5);
        because("a part under the number of the frozen district", x -> {
            middle.on(x);
            x.adopt();
            x.trade(11, 24);
        }, 3, 0);
    }

    // "one can come from each of its cells to each other one": also by the longest way
    private static void connectedByTheLongestWay() {
        because("two spirals", x -> {
            x.begin(2);
            Check.draftAll(x, "000000" + "111110" + "100010" + "101110" + "100000" + "111111");
        }, 0, -5);
        because("two combs", x -> {
            x.begin(2);
            Check.draftAll(x, "000000" + "010101" + "010101" + "010101" + "010101" + "111111");
        }, 0, -5);
        because("a spiral that is broken off", x -> {
            x.begin(2);
            Check.draftAll(x, "000000" + "111110" + "100010" + "100110" + "101000" + "111111");
        }, 3, 0);
    }

    // "or the lowest part (reasons 2 and 3)"
    private static void theLowestPartNotConnectedIsToBlame() {
        because("the parts 2 and 3", x -> {
            x.snake(false);
            x.trade(20, 35);
        }, 3, 2);
        because("the parts 1 and 3", x -> {
            x.snake(false);
            x.trade(14, 35);
        }, 3, 1);
        because("the parts 0 and 2 as well", x -> {
            x.snake(false);
            x.trade(14, 35);
            x.trade(0, 20);
        }, 3, 0);
    }

    // "Otherwise it is refused for the first of these reasons that holds"
    private static void theFirstReasonThatHolds() {
        Check.Setup split = x -> {
            x.snake(false);
            x.trade(0, 35);
        };
        because("only not connected", split, 3, 0);
        because("another size, in a part above it", x -> {
            split.on(x);
            x.draft(18, 1);
        }, 2, 1);
        because("no part, in a cell behind all", x -> {
            split.on(x);
            x.draft(18, 1);
            x.draft(34, -1);
        }, 1, 34);
        because("no part, so that another size, too", x -> {
            x.snake(false);
            x.draft(35, -1);
        }, 1, 35);
    }

    // "Returns the number; BAD_VALUE; NOT_POSSIBLE if no draft is to be made now." (promise 20)
    private static void whyIsRefused() {
        for (Map.Entry<String, Check.Setup> stage : Play.stages().entrySet()) {
            FrozenDistricts x = Check.made(stage.getValue());
            boolean cuts = x.count(4) == 0;
            for (int wrong : Play.outside(2)) {
                Check.refused(stage.getKey() + ", why(" + wrong + ")", stage.getValue(), y -> y.why(wrong), -2);
            }
            for (int what = 0; what < 2; what++) {
                int told = what;
                if (!cuts) {
                    Check.refused(stage.getKey() + ", why(" + what + ")", stage.getValue(), y -> y.why(told), -4);
                } else {
                    Check.isTrue(stage.getKey() + ", why(" + what + ")", x.why(what) >= 0 || x.why(what) == -5);
                }
            }
        }
    }

    // "NOT_POSSIBLE if no draft is to be made now; -10 less the reason if it is no cut (which is an error)" (promise 9)
    private static void proposeIsRefused() {
        for (Map.Entry<String, Check.Setup> stage : Play.stages().entrySet()) {
            Check.Setup setup = stage.getValue();
            if (Check.made(setup).count(4) != 0) {
                Check.refused(stage.getKey() + ", propose", setup, FrozenDistricts::propose, -4);
                continue;
            }
            Check.refused(stage.getKey() + ", one cell has none", x -> {
                setup.on(x);
                Play.draftCut(x);
                x.draft(35, -1);
            }, FrozenDistricts::propose, -11);
            Check.refused(stage.getKey() + ", one is too small", x -> {
                setup.on(x);
                Play.draftCut(x);
                x.draft(35, 0);
            }, FrozenDistricts::propose, -12);
            Check.refused(stage.getKey() + ", not connected", x -> {
                setup.on(x);
                Play.draftCut(x);
                x.trade(0, 35);
                x.trade(18, 35);
            }, FrozenDistricts::propose, -13);
        }
    }

    // "Returns k"
    private static void proposeReturnsK() {
        for (int n : Play.NUMBERS) {
            for (int turn = 0; turn < n - 1; turn++) {
                int turns = turn;
                FrozenDistricts x = Check.made(y -> Play.turns(y, n, turns));
                Play.draftCut(x);
                Check.due("k of " + n + " at the turn " + turn, x.propose(), n - turn);
            }
        }
    }

    // "freeze one of its parts, which becomes the next district (districts are numbered from 0)"
    private static void onePartBecomesTheNextDistrict() {
        for (int n : Play.NUMBERS) {
            for (int turn = 0; turn < n - 1; turn++) {
                for (int part = 0; part < n - turn; part++) {
                    int turns = turn;
                    FrozenDistricts x = Check.made(y -> {
                        Play.turns(y, n, turns);
                        Play.propose(y);
                    });
                    takes(x, part, turn, n);
                }
            }
        }
    }

    private static void takes(FrozenDistricts x, int part, int turn, int n) {
        boolean[] taken = new boolean[36];
        for (int cell = 0; cell < 36; cell++) {
            taken[cell] = x.cell(cell, 2) == part;
        }
        String what = "the part " + part + " of " + n + " at the turn " + turn;
        Check.due(what, x.freeze(part), turn == n - 2 ? n : turn + 1);
        for (int cell = 0; cell < 36; cell++) {
            Check.due(what + ", the cell " + cell, x.cell(cell, 3) == turn ? 1 : 0, taken[cell] ? 1 : 0);
        }
        Check.due(what + ", its cells", x.district(turn, 0), 36 / n);
    }

    // "the other player has to freeze one of its parts"; the last one is of the player who cut
    private static void theOtherPlayerFreezesIt() {
        for (int n : Play.NUMBERS) {
            FrozenDistricts x = Check.made(y -> Play.toTheEnd(y, n));
            for (int district = 0; district < n - 1; district++) {
                Check.due("who froze " + district + " of " + n, x.district(district, 1), 1 - district % 2);
            }
            Check.due("who cut the last of " + n, x.district(n - 1, 1), (n - 2) % 2);
        }
    }

    // "If only one part is left then, it is frozen at once, too, as the last district, and all is done."
    private static void theLastPartIsFrozenAtOnce() {
        for (int n : Play.NUMBERS) {
            for (int part = 0; part < 2; part++) {
                FrozenDistricts x = Check.made(y -> {
                    Play.turns(y, n, n - 2);
                    Play.propose(y);
                });
                int other = 1 - part;
                int lowest = x.part(other, 5);
                int before = x.count(10);
                Check.due("the last two of " + n, x.freeze(part), n);
                Check.due("the last of " + n + " is the other part", x.district(n - 1, 5), lowest);
                Check.due("its size", x.district(n - 1, 0), 36 / n);
                Check.due("all is done", x.count(4), 2);
                Check.due("no open cell", x.count(6), 0);
                Check.due("none without a part", x.count(7), 0);
                Check.due("one act", x.count(10), Math.min(before + 1, 4));
                Check.due("undone at once", x.undo(), Math.min(before, 3));
                Check.due("both are open again", x.count(6), 72 / n);
                Check.due("to freeze again", x.count(4), 1);
            }
        }
    }

    private static void twoPartsLeftAreNotFrozen() {
        for (int n : new int[] {3, 4, 6, 9}) {
            FrozenDistricts x = Check.made(y -> Play.turns(y, n, n - 3));
            Play.propose(x);
            Check.due("two are left of " + n, x.freeze(2), n - 2);
            Check.due("k is two", x.count(3), 2);
            Check.due("to cut once more", x.count(4), 0);
            Check.due("open cells", x.count(6), 72 / n);
        }
    }

    // "Otherwise the draft of the next player is empty."
    private static void theNextDraftIsEmpty() {
        for (int n : new int[] {3, 4, 6, 9}) {
            for (int turns = 1; turns < n - 1; turns++) {
                int made = turns;
                FrozenDistricts x = Check.made(y -> Play.turns(y, n, made));
                Check.due("open after " + turns + " of " + n, x.count(6), 36 - turns * 36 / n);
                Check.due("none of them has a part", x.count(7), 36 - turns * 36 / n);
                for (int cell = 0; cell < 36; cell++) {
                    Check.due("no part of " + cell, x.cell(cell, 2), -5);
                }
            }
        }
    }

    // "UNKNOWN: There is no such ... part" (promise 10)
    private static void aPartThatIsNone() {
        for (int n : Play.NUMBERS) {
            for (int turn = 0; turn < n - 1; turn++) {
                int turns = turn;
                for (int wrong : Play.outside(n - turn)) {
                    Check.refused("freeze " + wrong + " of " + n + " at the turn " + turn, x -> {
                        Play.turns(x, n, turns);
                        Play.propose(x);
                    }, x -> x.freeze(wrong), -1);
                }
            }
        }
    }

    // "NOT_POSSIBLE if no cut is proposed; UNKNOWN.": in this order
    private static void freezeOrderOfErrors() {
        for (Map.Entry<String, Check.Setup> stage : Play.stages().entrySet()) {
            if (Check.made(stage.getValue()).count(4) == 1) {
                continue;
            }
            for (int part : new int[] {-1, 0, 1, 4, Integer.MAX_VALUE}) {
                Check.refused(stage.getKey() + ", freeze " + part, stage.getValue(), x -> x.freeze(part), -4);
            }
        }
    }

    /** What is told of the draft, and what the proposal of it answers. */
    private static void because(String what, Check.Setup setup, int reason, int blamed) {
        Check.due(what + ", the reason", Check.made(setup).why(0), reason);
        Check.due(what + ", what is to blame", Check.made(setup).why(1), blamed);
        if (reason == 0) {
            FrozenDistricts x = Check.made(setup);
            Check.due(what + ", proposed", x.propose(), x.count(3));
        } else {
            Check.refused(what + ", refused", setup, FrozenDistricts::propose, -10 - reason);
        }
    }

    private static void all(FrozenDistricts x, int part) {
        for (int cell = 0; cell < 36; cell++) {
            x.draft(cell, part);
        }
    }
}
