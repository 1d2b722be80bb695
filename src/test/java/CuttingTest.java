/** Promises 5 to 10: draft, trade, snake, adopt, propose, freeze. */
public final class CuttingTest {
    /** Four parts of nine: the snake by rows. */
    private static final String ROWS = "000000" + "111000" + "111111" + "222222" + "222333" + "333333";

    public static void main(String[] args) {
        draft();
        draftIsRefused();
        trade();
        tradeIsRefused();
        snake();
        snakeAroundFrozenCells();
        snakeIsRefused();
        adopt();
        adoptIsRefused();
        propose();
        proposeIsRefused();
        freeze();
        freezeTheLast();
        freezeIsRefused();
        Check.end("CuttingTest");
    }

    private static void draft() {
        FrozenDistricts x = new FrozenDistricts();
        Check.due("5: none before", x.draft(0, 3), -1);
        Check.due("5: the part that it had", x.draft(0, 0), 3);
        Check.due("5: to none", x.draft(0, -1), 0);
        Check.due("5: none is told", x.cell(0, 2), -5);
        Check.due("5: the last cell", x.draft(35, 2), -1);
        Check.due("5: told", x.cell(35, 2), 2);
        Check.due("5: another cell stays", x.cell(34, 2), -5);
        Check.due("5: each is an act", x.count(10), 4);
        Check.due("5: undone", x.undo(), 3);
        Check.due("5: none again", x.cell(35, 2), -5);
        FrozenDistricts y = Check.made(CuttingTest::freezePartOne);
        Check.due("5: an open cell, the greatest part", y.draft(0, 2), -1);
    }

    private static void draftIsRefused() {
        Check.Setup one = x -> x.draft(3, 1);
        Check.refused("5: cell -1", one, x -> x.draft(-1, 0), -1);
        Check.refused("5: cell 36", one, x -> x.draft(36, 0), -1);
        Check.refused("5: the cell is looked at first", one, x -> x.draft(36, 9), -1);
        Check.refused("5: part -2", one, x -> x.draft(3, -2), -2);
        Check.refused("5: part k", one, x -> x.draft(3, 4), -2);
        Check.refused("5: the greatest part", one, x -> x.draft(3, Integer.MAX_VALUE), -2);
        Check.refused("5: so already", one, x -> x.draft(3, 1), -5);
        Check.refused("5: none already", one, x -> x.draft(4, -1), -5);
        Check.refused("5: frozen", CuttingTest::freezePartOne, x -> x.draft(6, 0), -4);
        Check.refused("5: frozen, before the part", CuttingTest::freezePartOne, x -> x.draft(6, 9), -4);
        Check.refused("5: frozen, none", CuttingTest::freezePartOne, x -> x.draft(6, -1), -4);
        Check.refused("5: part 3 of 3", CuttingTest::freezePartOne, x -> x.draft(0, 3), -2);
        Check.refused("5: while proposed", CuttingTest::proposeRows, x -> x.draft(0, 1), -4);
        Check.refused("5: while proposed, so already", CuttingTest::proposeRows, x -> x.draft(0, 0), -4);
        Check.refused("5: while proposed, cell", CuttingTest::proposeRows, x -> x.draft(36, 0), -1);
        Check.refused("5: all is done", CuttingTest::freezeTwoOfTwo, x -> x.draft(0, -1), -4);
    }

    private static void trade() {
        FrozenDistricts x = Check.made(y -> y.snake(false));
        Check.due("6: still a cut", x.trade(9, 6), 1);
        Check.due("6: the one", x.cell(9, 2), 1);
        Check.due("6: the other", x.cell(6, 2), 0);
        Check.due("6: back", x.trade(6, 9), 1);
        Check.due("6: an act", x.count(10), 3);
        Check.due("6: undone", x.undo(), 2);
        Check.due("6: as before", x.cell(9, 2), 1);
        FrozenDistricts y = Check.made(z -> z.snake(false));
        Check.due("6: over the border", y.trade(9, 8), 1);
        FrozenDistricts z = Check.made(v -> v.snake(false));
        Check.due("6: not connected then", z.trade(0, 6), 0);
        FrozenDistricts few = Check.made(v -> {
            v.draft(0, 0);
            v.draft(35, 3);
        });
        Check.due("6: of a draft that is not whole", few.trade(0, 35), 0);
        Check.due("6: traded", few.cell(0, 2), 3);
        Check.due("6: traded, the other", few.cell(35, 2), 0);
    }

    private static void tradeIsRefused() {
        Check.Setup rows = x -> {
            x.snake(false);
            x.draft(20, -1);
        };
        Check.refused("6: cell -1", rows, x -> x.trade(-1, 0), -1);
        Check.refused("6: cell 36", rows, x -> x.trade(36, 0), -1);
        Check.refused("6: other -1", rows, x -> x.trade(0, -1), -1);
        Check.refused("6: other 36", rows, x -> x.trade(0, 36), -1);
        Check.refused("6: other 36 before no part", rows, x -> x.trade(20, 36), -1);
        Check.refused("6: no part", rows, x -> x.trade(20, 0), -4);
        Check.refused("6: the other has no part", rows, x -> x.trade(0, 20), -4);
        Check.refused("6: both have no part", rows, x -> x.trade(20, 20), -4);
        Check.refused("6: the same part", rows, x -> x.trade(0, 5), -5);
        Check.refused("6: the same cell", rows, x -> x.trade(7, 7), -5);
        Check.Setup frozen = x -> {
            freezePartOne(x);
            x.snake(false);
        };
        Check.refused("6: frozen", frozen, x -> x.trade(6, 0), -4);
        Check.refused("6: the other is frozen", frozen, x -> x.trade(0, 6), -4);
        Check.refused("6: both are frozen", frozen, x -> x.trade(6, 7), -4);
        Check.refused("6: while proposed", CuttingTest::proposeRows, x -> x.trade(0, 6), -4);
        Check.refused("6: while proposed, the same part", CuttingTest::proposeRows, x -> x.trade(0, 1), -4);
        Check.refused("6: while proposed, cell", CuttingTest::proposeRows, x -> x.trade(0, 36), -1);
        Check.refused("6: all is done", CuttingTest::freezeTwoOfTwo, x -> x.trade(0, 1), -4);
    }

    private static void snake() {
        FrozenDistricts x = new FrozenDistricts();
        Check.due("7: by rows", x.snake(false), 1);
        drafted("7: by rows", x, ROWS);
        Check.due("7: by columns", x.snake(true), 1);
        drafted("7: by columns", x, "011223" + "011223" + "011223" + "001233" + "001233" + "001233");
        Check.due("7: an act", x.count(10), 2);
        Check.due("7: undone", x.undo(), 1);
        drafted("7: undone", x, ROWS);
        FrozenDistricts nine = Check.made(y -> y.begin(9));
        Check.due("7: nine parts", nine.snake(false), 1);
        drafted("7: nine parts", nine, "000011" + "222211" + "333344" + "555544" + "666677" + "888877");
        FrozenDistricts over = Check.made(y -> draftAll(y, "......" + "3333.." + "......" + "......" + "......" + ".....0"));
        Check.due("7: over another draft", over.snake(false), 1);
        drafted("7: over another draft", over, ROWS);
        for (int cell = 0; cell < 36; cell += 35) {
            int emptied = cell;
            FrozenDistricts almost = Check.made(y -> {
                y.snake(false);
                y.draft(emptied, -1);
            });
            Check.due("7: only the cell " + cell + " differs", almost.snake(false), 1);
            drafted("7: only the cell " + cell + " differs", almost, ROWS);
        }
    }

    private static void snakeAroundFrozenCells() {
        FrozenDistricts x = Check.made(CuttingTest::freezePartOne);
        Check.due("7: around frozen cells, no cut", x.snake(true), 0);
        drafted("7: around, by columns", x, "000112" + "...122" + "......" + "001122" + "001122" + "001122");
        Check.due("7: the reason", x.why(0), 3);
        Check.due("7: around frozen cells, a cut", x.snake(false), 1);
        drafted("7: around, by rows", x, "000000" + "...000" + "......" + "111111" + "111222" + "222222");
    }

    private static void snakeIsRefused() {
        Check.refused("7: so already", x -> x.snake(false), x -> x.snake(false), -5);
        Check.refused("7: so already, by columns", x -> x.snake(true), x -> x.snake(true), -5);
        Check.refused("7: so already, cell by cell", x -> draftAll(x, ROWS), x -> x.snake(false), -5);
        Check.refused("7: while proposed", CuttingTest::proposeRows, x -> x.snake(true), -4);
        Check.refused("7: while proposed, so already", CuttingTest::proposeRows, x -> x.snake(false), -4);
        Check.refused("7: all is done", CuttingTest::freezeTwoOfTwo, x -> x.snake(false), -4);
    }

    private static void adopt() {
        FrozenDistricts x = Check.made(CuttingTest::freezePartOne);
        Check.due("8: what is left", x.adopt(), 3);
        drafted("8: what is left", x, "000000" + "...000" + "......" + "111111" + "111222" + "222222");
        Check.due("8: an act", x.count(10), 4);
        Check.due("8: the first of the next", x.propose(), 3);
        Check.due("8: is frozen", x.freeze(0), 2);
        Check.due("8: what is left then", x.adopt(), 2);
        drafted("8: what is left then", x, "......" + "......" + "......" + "000000" + "000111" + "111111");
        Check.due("8: undone", x.undo(), 3);
        Check.due("8: empty as before", x.count(7), 18);
        FrozenDistricts last = Check.made(y -> {
            proposeRows(y);
            y.freeze(3);
        });
        Check.due("8: without the last part", last.adopt(), 3);
        drafted("8: without the last part", last, "000000" + "111000" + "111111" + "222222" + "222..." + "......");
        FrozenDistricts other = Check.made(y -> {
            freezePartOne(y);
            y.snake(true);
        });
        Check.due("8: over another draft", other.adopt(), 3);
        drafted("8: over another draft", other, "000000" + "...000" + "......" + "111111" + "111222" + "222222");
        FrozenDistricts almost = Check.made(y -> {
            freezePartOne(y);
            y.adopt();
            y.draft(0, -1);
        });
        Check.due("8: only a cell differs", almost.adopt(), 3);
        FrozenDistricts back = Check.made(y -> {
            freezePartOne(y);
            y.adopt();
            y.propose();
            y.undo();
            y.snake(true);
        });
        Check.due("8: the latest cut, if the next was undone", back.adopt(), 3);
        Check.due("8: its parts", back.cell(18, 2), 1);
    }

    private static void adoptIsRefused() {
        Check.refused("8: no cut yet", x -> x.snake(false), FrozenDistricts::adopt, -4);
        Check.refused("8: no cut, the proposal was undone", x -> {
            proposeRows(x);
            x.undo();
        }, FrozenDistricts::adopt, -4);
        Check.refused("8: no cut since the beginning", x -> {
            freezePartOne(x);
            x.begin(4);
        }, FrozenDistricts::adopt, -4);
        Check.refused("8: while proposed", CuttingTest::proposeRows, FrozenDistricts::adopt, -4);
        Check.refused("8: while proposed again", x -> {
            freezePartOne(x);
            x.adopt();
            x.propose();
        }, FrozenDistricts::adopt, -4);
        Check.refused("8: all is done", CuttingTest::freezeTwoOfTwo, FrozenDistricts::adopt, -4);
        Check.refused("8: so already", x -> {
            freezePartOne(x);
            x.adopt();
        }, FrozenDistricts::adopt, -5);
        Check.refused("8: so already, by a snake", x -> {
            freezePartOne(x);
            x.snake(false);
        }, FrozenDistricts::adopt, -5);
    }

    private static void propose() {
        FrozenDistricts x = Check.made(y -> y.snake(false));
        Check.due("9: k", x.propose(), 4);
        Check.due("9: to be frozen", x.count(4), 1);
        Check.due("9: by the other player", x.count(5), 1);
        drafted("9: the parts stay", x, ROWS);
        Check.due("9: an act", x.count(10), 2);
        Check.due("9: undone", x.undo(), 1);
        Check.due("9: to be cut again", x.count(4), 0);
        Check.due("9: by the player 0", x.count(5), 0);
        FrozenDistricts y = Check.made(z -> {
            freezePartOne(z);
            z.adopt();
        });
        Check.due("9: k of the next", y.propose(), 3);
        Check.due("9: the player 0 freezes then", y.count(5), 0);
    }

    private static void proposeIsRefused() {
        Check.refused("9: an empty draft", x -> x.begin(2), FrozenDistricts::propose, -11);
        Check.refused("9: one cell without a part", x -> {
            x.snake(false);
            x.draft(35, -1);
        }, FrozenDistricts::propose, -11);
        Check.refused("9: another size", x -> {
            x.snake(false);
            x.draft(35, 0);
        }, FrozenDistricts::propose, -12);
        Check.refused("9: not connected", x -> {
            x.snake(false);
            x.trade(0, 35);
        }, FrozenDistricts::propose, -13);
        Check.refused("9: proposed already", CuttingTest::proposeRows, FrozenDistricts::propose, -4);
        Check.refused("9: all is done", CuttingTest::freezeTwoOfTwo, FrozenDistricts::propose, -4);
        Check.refused("9: the next is empty", CuttingTest::freezePartOne, FrozenDistricts::propose, -11);
    }

    private static void freeze() {
        FrozenDistricts x = Check.made(CuttingTest::proposeRows);
        Check.due("10: how many", x.freeze(1), 1);
        Check.due("10: k", x.count(3), 3);
        Check.due("10: the next draft is empty", x.count(7), 27);
        Check.due("10: no part", x.cell(0, 2), -5);
        Check.due("10: to be cut", x.count(4), 0);
        Check.due("10: by the player 1", x.count(5), 1);
        Check.due("10: its district", x.cell(6, 3), 0);
        Check.due("10: the other cells are open", x.cell(9, 3), -5);
        Check.due("10: who froze it", x.district(0, 1), 1);
        Check.due("10: its cells", x.district(0, 0), 9);
        Check.due("10: an act", x.count(10), 3);
        x.adopt();
        x.propose();
        Check.due("10: the next", x.freeze(2), 2);
        Check.due("10: the next district", x.cell(35, 3), 1);
        Check.due("10: by the player 0", x.district(1, 1), 0);
        Check.due("10: the player 0 cuts again", x.count(5), 0);
        Check.due("10: undone", x.undo(), 3);
        Check.due("10: proposed again", x.count(4), 1);
        Check.due("10: open again", x.cell(35, 3), -5);
        Check.due("10: its part again", x.cell(35, 2), 2);
        Check.due("10: another one", x.freeze(0), 2);
        Check.due("10: another district", x.cell(0, 3), 1);
    }

    private static void freezeTheLast() {
        FrozenDistricts x = Check.made(y -> y.begin(9));
        int[] froze = {1, 0, 1, 0, 1, 0, 1, 0, 1};
        for (int turn = 0; turn < 8; turn++) {
            if (turn == 0) {
                x.snake(false);
            } else {
                x.adopt();
            }
            x.propose();
            Check.due("10: nine, turn " + turn, x.freeze(0), turn < 7 ? turn + 1 : 9);
        }
        for (int number = 0; number < 9; number++) {
            Check.due("10: nine, who froze " + number, x.district(number, 1), froze[number]);
            Check.due("10: nine, the size of " + number, x.district(number, 0), 4);
        }
        Check.due("10: the last district", x.cell(30, 3), 8);
        Check.due("10: all is done", x.count(4), 2);
        Check.due("10: nobody is to do it", x.count(5), -5);
        FrozenDistricts two = Check.made(y -> {
            y.begin(2);
            proposeRows(y);
        });
        Check.due("10: two at once", two.freeze(1), 2);
        Check.due("10: the one that was taken", two.cell(35, 3), 0);
        Check.due("10: the last one", two.cell(0, 3), 1);
        Check.due("10: who froze the one", two.district(0, 1), 1);
        Check.due("10: who cut the last one", two.district(1, 1), 0);
        Check.due("10: no parts then", two.cell(0, 2), -5);
        Check.due("10: undone", two.undo(), 3);
        Check.due("10: nothing is frozen", two.count(2), 0);
    }

    private static void freezeIsRefused() {
        Check.refused("10: no cut is proposed", x -> x.snake(false), x -> x.freeze(0), -4);
        Check.refused("10: no cut, before the part", x -> x.snake(false), x -> x.freeze(9), -4);
        Check.refused("10: part -1", CuttingTest::proposeRows, x -> x.freeze(-1), -1);
        Check.refused("10: part k", CuttingTest::proposeRows, x -> x.freeze(4), -1);
        Check.refused("10: the least part", CuttingTest::proposeRows, x -> x.freeze(Integer.MIN_VALUE), -1);
        Check.refused("10: part k of the next", x -> {
            freezePartOne(x);
            x.adopt();
            x.propose();
        }, x -> x.freeze(3), -1);
        Check.refused("10: frozen already", CuttingTest::freezePartOne, x -> x.freeze(0), -4);
        Check.refused("10: all is done", CuttingTest::freezeTwoOfTwo, x -> x.freeze(0), -4);
    }

    private static void proposeRows(FrozenDistricts x) {
        x.snake(false);
        x.propose();
    }

    private static void freezePartOne(FrozenDistricts x) {
        proposeRows(x);
        x.freeze(1);
    }

    private static void freezeTwoOfTwo(FrozenDistricts x) {
        x.begin(2);
        proposeRows(x);
        x.freeze(0);
    }

    private static void draftAll(FrozenDistricts x, String map) {
        Check.draftAll(x, map);
    }

    private static void drafted(String what, FrozenDistricts x, String map) {
        for (int cell = 0; cell < 36; cell++) {
            char sign = map.charAt(cell);
            Check.due(what + ", cell " + cell, x.cell(cell, 2), sign == '.' ? -5 : sign - '0');
        }
    }
}
