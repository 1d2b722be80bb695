import java.util.ArrayList;
import java.util.List;
import java.util.Map;

/** The edges of the document's promises 5 to 8 on the draft, each with a test of its own. */
public final class DraftEdgesTest {
    public static void main(String[] args) {
        draftOfEachOpenCell();
        draftOfParts();
        draftReturnsThePartBefore();
        draftThatReturnsMinusOneIsAnAct();
        draftSoAlready();
        draftOfFrozenCells();
        draftOnlyIfItIsToBeMade();
        draftOrderOfErrors();
        tradeExchanges();
        tradeReturnsOneForACut();
        tradeThatReturnsZeroIsAnAct();
        tradeWithoutAPart();
        tradeOfFrozenCells();
        tradeOfTheSamePart();
        tradeOnlyIfADraftIsToBeMade();
        tradeOrderOfErrors();
        snakeOfTheWholeMap();
        snakeOfOpenCells();
        snakeReturnsOneForACut();
        snakeOverAnyDraft();
        snakeSoAlready();
        snakeOnlyIfADraftIsToBeMade();
        adoptWhatIsLeft();
        adoptOfTheLatestCut();
        adoptReturnsHowManyParts();
        adoptOnlyBehindACut();
        adoptOnlyIfADraftIsToBeMade();
        adoptSoAlready();
        Check.end("DraftEdgesTest");
    }

    // "Gives an open cell a part in the draft": each cell from 0 to 35
    private static void draftOfEachOpenCell() {
        for (int cell = 0; cell < 36; cell++) {
            FrozenDistricts x = new FrozenDistricts();
            Check.due("draft of " + cell, x.draft(cell, 3), -1);
            Check.due("its part", x.cell(cell, 2), 3);
            Check.due("the only cell of the part", x.part(3, 0), 1);
            Check.due("the other cells have none", x.count(7), 35);
        }
    }

    // "part: 0 to k - 1, or -1 for none": the bound is k, also when it has become less
    private static void draftOfParts() {
        for (int n : Play.NUMBERS) {
            for (int turn = 0; turn < n - 1; turn++) {
                int turns = turn;
                int k = n - turn;
                Check.Setup setup = x -> {
                    Play.turns(x, n, turns);
                    x.draft(35, 0);
                };
                String what = "of " + k + " parts, draft of ";
                for (int part = -1; part < k; part++) {
                    FrozenDistricts x = Check.made(setup);
                    Check.due(what + part, x.draft(35, part), part == 0 ? -5 : 0);
                    Check.due(what + part + ", told", x.cell(35, 2), part == -1 ? -5 : part);
                }
                for (int wrong : new int[] {-2, -3, k, k + 1, 1000, Integer.MIN_VALUE, Integer.MAX_VALUE}) {
                    Check.refused(what + wrong, setup, x -> x.draft(35, wrong), -2);
                }
            }
        }
    }

    // "Returns the part that it had (-1 for none)"
    private static void draftReturnsThePartBefore() {
        FrozenDistricts x = Check.made(y -> y.begin(9));
        int before = -1;
        for (int part : new int[] {0, 8, -1, 8, 0, -1, 1}) {
            Check.due("the part before " + part, x.draft(5, part), before);
            before = part;
        }
    }

    // "Returns the part that it had (-1 for none)" is no error, so that the call is an act
    private static void draftThatReturnsMinusOneIsAnAct() {
        FrozenDistricts x = new FrozenDistricts();
        Check.due("it had none", x.draft(5, 2), -1);
        Check.due("recorded", x.count(10), 1);
        Check.due("undone", x.undo(), 0);
        Check.due("none again", x.cell(5, 2), -5);
    }

    // "NONE if it is so already"
    private static void draftSoAlready() {
        Check.refused("none already", x -> x.draft(5, 2), x -> x.draft(6, -1), -5);
        for (int part = 0; part < 4; part++) {
            int same = part;
            Check.refused("the part " + part + " already", x -> x.draft(5, same), x -> x.draft(5, same), -5);
        }
        Check.refused("none again", x -> {
            x.draft(5, 2);
            x.draft(5, -1);
        }, x -> x.draft(5, -1), -5);
    }

    // "NOT_POSSIBLE if it is frozen": each cell of the district, and none of the others
    private static void draftOfFrozenCells() {
        Check.Setup setup = x -> Play.turn(x, 1);
        for (int cell = 0; cell < 36; cell++) {
            int each = cell;
            if (Check.made(setup).cell(cell, 3) == 0) {
                Check.refused("draft of the frozen " + cell, setup, x -> x.draft(each, 0), -4);
                Check.refused("draft of the frozen " + cell + ", none", setup, x -> x.draft(each, -1), -4);
            } else {
                Check.due("draft of the open " + cell, Check.made(setup).draft(cell, 0), -1);
            }
        }
    }

    // "or no draft is to be made now"
    private static void draftOnlyIfItIsToBeMade() {
        for (Map.Entry<String, Check.Setup> stage : Play.stages().entrySet()) {
            if (Check.made(stage.getValue()).count(4) == 0) {
                continue;
            }
            for (int part = -1; part < 4; part++) {
                int each = part;
                Check.refused(stage.getKey() + ", draft " + part, stage.getValue(), x -> x.draft(35, each), -4);
            }
        }
    }

    // "UNKNOWN (cell); NOT_POSSIBLE ...; BAD_VALUE; NONE": in this order
    private static void draftOrderOfErrors() {
        Check.Setup frozen = x -> Play.turn(x, 1);
        Check.refused("no cell, while a cut is proposed", Play::propose, x -> x.draft(36, 0), -1);
        Check.refused("no cell, a bad part", frozen, x -> x.draft(-1, 9), -1);
        Check.refused("no cell, none", frozen, x -> x.draft(36, -1), -1);
        Check.refused("no cell, all is done", x -> Play.toTheEnd(x, 2), x -> x.draft(36, 9), -1);
        Check.refused("frozen, a bad part", frozen, x -> x.draft(6, 3), -4);
        Check.refused("frozen, a part below", frozen, x -> x.draft(6, -2), -4);
        Check.refused("while proposed, a bad part", Play::propose, x -> x.draft(0, 4), -4);
        Check.refused("while proposed, so already", Play::propose, x -> x.draft(0, 0), -4);
        Check.refused("all is done, a bad part", x -> Play.toTheEnd(x, 2), x -> x.draft(0, 2), -4);
        Check.refused("all is done, none already", x -> Play.toTheEnd(x, 2), x -> x.draft(0, -1), -4);
    }

    // "Exchanges the parts of two cells in the draft."
    private static void tradeExchanges() {
        for (int cell = 0; cell < 36; cell++) {
            int other = 35 - cell;
            FrozenDistricts x = Check.made(y -> y.snake(false));
            int part = x.cell(cell, 2);
            int otherPart = x.cell(other, 2);
            Check.isTrue("trade of " + cell, x.trade(cell, other) >= 0);
            Check.due("the part of " + cell, x.cell(cell, 2), otherPart);
            Check.due("the part of " + other, x.cell(other, 2), part);
            Check.due("as many cells as before", x.part(part, 0) + x.part(otherPart, 0), 18);
        }
    }

    // "Returns 1 if the draft is a cut then, otherwise 0"
    private static void tradeReturnsOneForACut() {
        Check.Setup rows = x -> x.snake(false);
        Check.due("a cut before and then", Check.made(rows).trade(6, 9), 1);
        Check.due("a cut before, not then", Check.made(rows).trade(0, 6), 0);
        Check.due("the other way round, the same", Check.made(rows).trade(6, 0), 0);
        FrozenDistricts x = Check.made(rows);
        x.trade(0, 35);
        Check.due("no cut before, but then", x.trade(0, 35), 1);
        x.trade(0, 35);
        Check.due("no cut before nor then", x.trade(1, 34), 0);
        Check.due("another size", Check.made(y -> {
            y.snake(false);
            y.draft(0, 1);
        }).trade(6, 9), 0);
        Check.due("a cell without a part", Check.made(y -> {
            y.snake(false);
            y.draft(35, -1);
        }).trade(6, 9), 0);
        FrozenDistricts later = Check.made(y -> {
            Play.turn(y, 0);
            y.adopt();
        });
        Check.due("a cut of what is open", later.trade(12, 35), 0);
        Check.due("a cut of what is open again", later.trade(12, 35), 1);
    }

    // "otherwise 0" is no error, so that the call is an act
    private static void tradeThatReturnsZeroIsAnAct() {
        FrozenDistricts x = Check.made(y -> y.snake(false));
        Check.due("no cut then", x.trade(0, 35), 0);
        Check.due("recorded", x.count(10), 2);
        Check.due("undone", x.undo(), 1);
        Check.due("as before", x.cell(0, 2), 0);
    }

    // "NOT_POSSIBLE if one of both ... has no part": the one, the other, or both
    private static void tradeWithoutAPart() {
        Check.Setup setup = x -> x.draft(7, 3);
        Check.refused("the one has none", setup, x -> x.trade(8, 7), -4);
        Check.refused("the other has none", setup, x -> x.trade(7, 8), -4);
        Check.refused("both have none", setup, x -> x.trade(8, 9), -4);
        Check.refused("the same cell has none", setup, x -> x.trade(8, 8), -4);
        Check.refused("nothing is drafted", x -> x.setTarget(0, 1), x -> x.trade(0, 35), -4);
    }

    // "NOT_POSSIBLE if one of both is frozen": the one, the other, or both
    private static void tradeOfFrozenCells() {
        Check.Setup setup = x -> {
            Play.turn(x, 1);
            x.adopt();
        };
        Check.refused("the one is frozen", setup, x -> x.trade(6, 0), -4);
        Check.refused("the other is frozen", setup, x -> x.trade(0, 6), -4);
        Check.refused("both are frozen", setup, x -> x.trade(6, 7), -4);
        Check.refused("the same cell is frozen", setup, x -> x.trade(6, 6), -4);
        Check.refused("frozen under the other's number", setup, x -> x.trade(0, 8), -4);
        Check.Setup two = x -> {
            Play.turns(x, 4, 2);
            x.adopt();
        };
        Check.refused("frozen, of two districts", two, x -> x.trade(0, 6), -4);
    }

    // "NONE if both have the same part": also a cell with itself
    private static void tradeOfTheSamePart() {
        Check.Setup setup = x -> x.snake(false);
        Check.refused("the same part", setup, x -> x.trade(0, 5), -5);
        Check.refused("the same part, the last", setup, x -> x.trade(35, 27), -5);
        for (int cell = 0; cell < 36; cell += 7) {
            int same = cell;
            Check.refused("the cell " + cell + " with itself", setup, x -> x.trade(same, same), -5);
        }
    }

    // "or no draft is to be made now"
    private static void tradeOnlyIfADraftIsToBeMade() {
        for (Map.Entry<String, Check.Setup> stage : Play.stages().entrySet()) {
            if (Check.made(stage.getValue()).count(4) != 0) {
                Check.refused(stage.getKey() + ", trade", stage.getValue(), x -> x.trade(0, 35), -4);
                Check.refused(stage.getKey() + ", trade with itself", stage.getValue(), x -> x.trade(35, 35), -4);
                Check.refused(stage.getKey() + ", trade of one part", stage.getValue(), x -> x.trade(34, 35), -4);
            }
        }
    }

    // "UNKNOWN (cell or other); NOT_POSSIBLE ...; NONE": in this order
    private static void tradeOrderOfErrors() {
        Check.refused("no cell, while proposed", Play::propose, x -> x.trade(36, 0), -1);
        Check.refused("no other cell, while proposed", Play::propose, x -> x.trade(0, 36), -1);
        Check.refused("no other cell, the one is frozen", x -> Play.turn(x, 1), x -> x.trade(6, 36), -1);
        Check.refused("no other cell, the one has no part", x -> x.draft(1, 1), x -> x.trade(0, -1), -1);
        Check.refused("no cell, the same one", x -> x.snake(false), x -> x.trade(36, 36), -1);
        Check.refused("no cell, all is done", x -> Play.toTheEnd(x, 2), x -> x.trade(-1, -1), -1);
        Check.refused("both without a part, not NONE", x -> x.draft(1, 1), x -> x.trade(2, 3), -4);
    }

    /** The cells in the order of the snake, written once more. */
    private static List<Integer> way(boolean byColumns) {
        List<Integer> way = new ArrayList<>();
        for (int line = 0; line < 6; line++) {
            for (int step = 0; step < 6; step++) {
                int place = line % 2 == 0 ? step : 5 - step;
                way.add(byColumns ? 6 * place + line : 6 * line + place);
            }
        }
        return way;
    }

    private static void drafted(String what, FrozenDistricts x, boolean byColumns) {
        int open = 0;
        for (int cell : way(byColumns)) {
            boolean frozen = x.cell(cell, 3) != -5;
            Check.due(what + ", cell " + cell, x.cell(cell, 2), frozen ? -5 : open / x.count(1));
            open += frozen ? 0 : 1;
        }
        Check.due(what + ", no cell without a part", x.count(7), 0);
    }

    // "row by row, the rows 0, 2 and 4 from the left, the others from the right (or column by
    // column, 0, 2 and 4 from the top, the others from below) ..., as many as the size each"
    private static void snakeOfTheWholeMap() {
        for (int n : Play.NUMBERS) {
            FrozenDistricts x = Check.made(y -> y.begin(n));
            Check.due("by rows, " + n, x.snake(false), 1);
            drafted("by rows, " + n, x, false);
            FrozenDistricts y = Check.made(z -> z.begin(n));
            Check.due("by columns, " + n, y.snake(true), 1);
            drafted("by columns, " + n, y, true);
        }
    }

    // "all open cells ... get parts": the frozen ones are left out
    private static void snakeOfOpenCells() {
        for (int n : new int[] {3, 4, 6, 9}) {
            for (int part = 0; part < n; part++) {
                int taken = part;
                for (int way = 0; way < 4; way++) {
                    boolean cutByColumns = way / 2 == 1;
                    boolean byColumns = way % 2 == 1;
                    FrozenDistricts x = Check.made(y -> {
                        y.begin(n);
                        y.snake(cutByColumns);
                        y.propose();
                        y.freeze(taken);
                    });
                    int cut = x.snake(byColumns);
                    String what = "of " + n + ", without " + part + ", way " + way;
                    drafted(what, x, byColumns);
                    Check.due(what + ", a cut or none", cut, x.why(0) == 0 ? 1 : 0);
                }
            }
        }
        FrozenDistricts last = Check.made(y -> Play.turns(y, 9, 7));
        Check.due("of the last two of nine", last.snake(true), 1);
        drafted("of the last two of nine", last, true);
    }

    // "Returns 1 if the draft is a cut then, otherwise 0"
    private static void snakeReturnsOneForACut() {
        Check.Setup middle = x -> {
            x.begin(3);
            Play.turn(x, 1);
        };
        FrozenDistricts x = Check.made(middle);
        Check.due("around the middle, no cut", x.snake(true), 0);
        Check.due("which is an act", x.count(10), 4);
        Check.due("not connected", x.why(0), 3);
        FrozenDistricts y = Check.made(middle);
        Check.due("above and below the middle, a cut", y.snake(false), 1);
        Check.due("connected", y.why(0), 0);
    }

    // "all open cells ... get parts": whatever part they had
    private static void snakeOverAnyDraft() {
        for (int cell = 0; cell < 36; cell++) {
            int each = cell;
            FrozenDistricts x = Check.made(y -> {
                y.snake(false);
                y.draft(each, -1);
            });
            Check.due("the cell " + cell + " has none", x.snake(false), 1);
            drafted("the cell " + cell + " had none", x, false);
            FrozenDistricts y = Check.made(z -> {
                z.snake(false);
                z.trade(each, 35 - each);
            });
            Check.due("the cell " + cell + " is traded", y.snake(false), 1);
            drafted("the cell " + cell + " was traded", y, false);
        }
    }

    // "NONE if the draft is so already"
    private static void snakeSoAlready() {
        for (int n : Play.NUMBERS) {
            for (int way = 0; way < 2; way++) {
                boolean byColumns = way == 1;
                Check.Setup setup = x -> {
                    x.begin(n);
                    x.snake(byColumns);
                };
                Check.refused("so already, " + n, setup, x -> x.snake(byColumns), -5);
                Check.due("not the other way", Check.made(setup).snake(!byColumns), 1);
            }
        }
        Check.refused("so already, no cut", x -> {
            x.begin(3);
            Play.turn(x, 1);
            x.snake(true);
        }, x -> x.snake(true), -5);
        Check.refused("so already, adopted", x -> {
            Play.turn(x, 0);
            x.adopt();
        }, x -> x.snake(false), -5);
        Check.refused("so already, traded there and back", x -> {
            x.snake(true);
            x.trade(0, 35);
            x.trade(35, 0);
        }, x -> x.snake(true), -5);
    }

    // "NOT_POSSIBLE if no draft is to be made now; NONE": in this order
    private static void snakeOnlyIfADraftIsToBeMade() {
        for (Map.Entry<String, Check.Setup> stage : Play.stages().entrySet()) {
            if (Check.made(stage.getValue()).count(4) != 0) {
                Check.refused(stage.getKey() + ", by rows", stage.getValue(), x -> x.snake(false), -4);
                Check.refused(stage.getKey() + ", by columns", stage.getValue(), x -> x.snake(true), -4);
            }
        }
    }

    // "its parts without that which was frozen, in their order, numbered anew from 0"
    private static void adoptWhatIsLeft() {
        for (int n : new int[] {3, 4, 6, 9}) {
            for (int part = 0; part < n; part++) {
                int taken = part;
                FrozenDistricts x = Check.made(y -> {
                    y.begin(n);
                    y.snake(true);
                    y.propose();
                });
                int[] parts = new int[36];
                for (int cell = 0; cell < 36; cell++) {
                    parts[cell] = x.cell(cell, 2);
                }
                x.freeze(taken);
                Check.due("of " + n + " without " + part, x.adopt(), n - 1);
                for (int cell = 0; cell < 36; cell++) {
                    int anew = parts[cell] == part ? -5 : parts[cell] < part ? parts[cell] : parts[cell] - 1;
                    Check.due("of " + n + " without " + part + ", the cell " + cell, x.cell(cell, 2), anew);
                }
            }
        }
    }

    // "what is left of the latest cut": not of the one before, nor of a draft
    private static void adoptOfTheLatestCut() {
        FrozenDistricts x = Check.made(y -> {
            Play.turn(y, 3);
            y.adopt();
            y.trade(6, 9);
            y.propose();
            y.freeze(2);
        });
        Check.due("what is left of the second", x.adopt(), 2);
        Check.due("as it was traded", x.cell(6, 2), 0);
        Check.due("as it was traded, the other", x.cell(9, 2), 1);
        x.snake(true);
        Check.due("not of the draft", x.adopt(), 2);
        Check.due("not of the draft, its parts", x.cell(6, 2), 0);
        FrozenDistricts kept = Check.made(y -> {
            Play.turn(y, 3);
            y.keep();
            y.begin(9);
            Play.turn(y, 0);
            y.restore();
        });
        Check.due("of the latest cut of what is restored", kept.adopt(), 3);
        Check.due("its last part", kept.cell(24, 2), 2);
        FrozenDistricts undone = Check.made(y -> {
            Play.turn(y, 3);
            y.snake(true);
            y.draft(0, -1);
            y.begin(2);
            y.undo();
        });
        Check.due("of the latest cut of what is undone to", undone.adopt(), 3);
        Check.due("of the latest cut of what is undone to, its last part", undone.cell(24, 2), 2);
    }

    // "Returns how many parts there are"
    private static void adoptReturnsHowManyParts() {
        for (int n : new int[] {3, 4, 6, 9}) {
            for (int turns = 1; turns < n - 1; turns++) {
                int made = turns;
                FrozenDistricts x = Check.made(y -> Play.turns(y, n, made));
                Check.due("of " + n + " after " + turns, x.adopt(), n - turns);
                Check.due("it is a cut", x.why(0), 0);
                Check.due("no part is behind them", x.part(n - turns, 0), -1);
            }
        }
    }

    // "or there was no cut since the beginning"
    private static void adoptOnlyBehindACut() {
        for (int n : Play.NUMBERS) {
            Check.refused("nothing yet, of " + n, x -> x.begin(n), FrozenDistricts::adopt, -4);
        }
        Check.refused("a new object", x -> { }, FrozenDistricts::adopt, -4);
        Check.refused("only a draft", x -> x.snake(false), FrozenDistricts::adopt, -4);
        for (Map.Entry<String, Check.Setup> stage : Play.stages().entrySet()) {
            Check.refused(stage.getKey() + ", begun anew", x -> {
                stage.getValue().on(x);
                x.begin(6);
            }, FrozenDistricts::adopt, -4);
        }
        Check.refused("the cut was undone", x -> {
            Play.propose(x);
            x.freeze(0);
            x.undo();
            x.undo();
        }, FrozenDistricts::adopt, -4);
        Check.refused("restored to before the cut", x -> {
            x.keep();
            Play.turn(x, 0);
            x.restore();
        }, FrozenDistricts::adopt, -4);
    }

    // "NOT_POSSIBLE if no draft is to be made now"
    private static void adoptOnlyIfADraftIsToBeMade() {
        for (Map.Entry<String, Check.Setup> stage : Play.stages().entrySet()) {
            if (Check.made(stage.getValue()).count(4) != 0) {
                Check.refused(stage.getKey() + ", adopt", stage.getValue(), FrozenDistricts::adopt, -4);
            }
        }
    }

    // "NONE if the draft is so already"
    private static void adoptSoAlready() {
        for (int part = 0; part < 4; part++) {
            int taken = part;
            Check.Setup setup = x -> {
                Play.turn(x, taken);
                x.adopt();
            };
            Check.refused("adopted already, without " + part, setup, FrozenDistricts::adopt, -5);
        }
        for (int cell = 9; cell < 36; cell++) {
            int each = cell;
            FrozenDistricts x = Check.made(y -> {
                y.begin(4);
                y.snake(true);
                y.propose();
                y.freeze(0);
                y.adopt();
            });
            int had = x.draft(each, -1);
            if (had >= 0) {
                Check.due("only the cell " + cell + " differs", x.adopt(), 3);
                Check.due("its part", x.cell(cell, 2), had);
            }
        }
        Check.refused("as the snake is", x -> {
            Play.turn(x, 0);
            x.snake(false);
        }, FrozenDistricts::adopt, -5);
    }
}
