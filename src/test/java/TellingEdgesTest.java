import java.util.Map;

/** The edges of the document's sentences on winners and of its promises 17 to 24, each with a test of its own. */
public final class TellingEdgesTest {
    private static final int[] DIGITS = {0, 1, 2, 3, 4, 5, 6, 7, 8, 9};

    public static void main(String[] args) {
        whatIsToldOfCells();
        aPartIsToldOfOpenCells();
        aDistrictIsToldOfFrozenCells();
        alikeInPartsAndDistricts();
        piecesOfAPart();
        bordersOfAPart();
        bordersOfADistrict();
        marginAboveBelowAndAtZero();
        theGreatestMargins();
        theLowestCell();
        partsFromZeroToK();
        districtsThatAreFrozen();
        whatIsOutOfRange();
        anErrorOfTheNumberComesFirst();
        whoFroze();
        wastedVotes();
        wastedVotesInAllDistricts();
        aDrawIsNoSeat();
        adviceTheLeastMargin();
        adviceTheGreatestMarginOfTheOther();
        adviceTheLowestOfSeveral();
        adviceIfThereAreDraws();
        adviceOnlyIfACutIsProposed();
        seatsLessTheTarget();
        partsThatAPartyWins();
        fairnessOfFrozenDistricts();
        theGreatestFairness();
        countsAtTheEnds();
        countOfOpenCellsWithoutAPart();
        bordersOfEachDistrict();
        districtsThatAreDraws();
        Check.end("TellingEdgesTest");
    }

    /** Two districts by rows, as they are proposed, with votes in the cell 0 and in the cell 35. */
    private static FrozenDistricts two(int first, int second, int otherFirst, int otherSecond) {
        return Check.made(x -> {
            x.begin(2);
            x.setVotes(0, first, second);
            x.setVotes(35, otherFirst, otherSecond);
            Play.propose(x);
        });
    }

    // "0 for its votes for the party 0, 1 for those for the party 1"
    private static void whatIsToldOfCells() {
        for (int cell = 0; cell < 36; cell++) {
            int each = cell;
            FrozenDistricts x = Check.made(y -> y.setVotes(each, 9, 1));
            Check.due("votes of " + cell + " for 0", x.cell(cell, 0), 9);
            Check.due("votes of " + cell + " for 1", x.cell(cell, 1), 1);
            Check.due("no others for 0", x.party(0, 1), 9);
            Check.due("no others for 1", x.party(1, 1), 1);
        }
    }

    // "2 for its part in the draft or the cut that is proposed (NONE if it has none, or is frozen)"
    private static void aPartIsToldOfOpenCells() {
        FrozenDistricts x = new FrozenDistricts();
        Check.due("it has none", x.cell(0, 2), -5);
        x.snake(false);
        Check.due("in the draft", x.cell(35, 2), 3);
        Check.due("the part 0", x.cell(0, 2), 0);
        x.propose();
        Check.due("in the cut", x.cell(35, 2), 3);
        x.freeze(3);
        Check.due("it is frozen", x.cell(35, 2), -5);
        Check.due("the next draft is empty", x.cell(0, 2), -5);
        x.adopt();
        Check.due("it is frozen, others have parts", x.cell(35, 2), -5);
        Check.due("in the next draft", x.cell(18, 2), 2);
        for (int n : Play.NUMBERS) {
            FrozenDistricts done = Check.made(y -> Play.toTheEnd(y, n));
            for (int cell = 0; cell < 36; cell++) {
                Check.due("all is done, " + cell, done.cell(cell, 2), -5);
            }
        }
    }

    // "3 for its district (NONE if it is open)"
    private static void aDistrictIsToldOfFrozenCells() {
        FrozenDistricts x = Check.made(y -> Play.turn(y, 3));
        for (int cell = 0; cell < 36; cell++) {
            Check.due("the district of " + cell, x.cell(cell, 3), cell < 27 ? -5 : 0);
        }
        FrozenDistricts done = Check.made(y -> Play.toTheEnd(y, 9));
        done.undo();
        for (int cell = 0; cell < 36; cell++) {
            Check.isTrue("open again or not, " + cell, done.cell(cell, 3) == -5 == (done.cell(cell, 2) >= 0));
        }
    }

    // "4 for how many cells next to it are in the same part or the same district (0 if it has neither)"
    private static void alikeInPartsAndDistricts() {
        FrozenDistricts x = new FrozenDistricts();
        for (int cell = 0; cell < 36; cell++) {
            Check.due("neither, " + cell, x.cell(cell, 4), 0);
        }
        FrozenDistricts all = Check.made(y -> {
            for (int cell = 0; cell < 36; cell++) {
                y.draft(cell, 1);
            }
        });
        for (int cell = 0; cell < 36; cell++) {
            int row = cell / 6;
            int column = cell % 6;
            int sides = (row > 0 ? 1 : 0) + (row < 5 ? 1 : 0) + (column > 0 ? 1 : 0) + (column < 5 ? 1 : 0);
            Check.due("all around " + cell, all.cell(cell, 4), sides);
        }
        FrozenDistricts frozen = Check.made(y -> {
            y.begin(3);
            Play.turn(y, 1);
        });
        Check.due("in the district", frozen.cell(12, 4), 2);
        Check.due("in the district, of the second row", frozen.cell(19, 4), 3);
        Check.due("open, without a part, next to open ones", frozen.cell(6, 4), 0);
        frozen.draft(6, 0);
        Check.due("the part 0 next to the district 0", frozen.cell(6, 4), 0);
        Check.due("the district 0 next to the part 0", frozen.cell(12, 4), 2);
        frozen.draft(7, 0);
        Check.due("the same part", frozen.cell(6, 4), 1);
        frozen.draft(7, 1);
        Check.due("another part", frozen.cell(6, 4), 0);
    }

    // "1 for how many connected pieces it has": none, one, many
    private static void piecesOfAPart() {
        Check.due("no cells", new FrozenDistricts().part(0, 1), 0);
        for (int cell = 0; cell < 36; cell++) {
            int each = cell;
            Check.due("one cell", Check.made(x -> x.draft(each, 2)).part(2, 1), 1);
        }
        FrozenDistricts board = new FrozenDistricts();
        for (int cell = 0; cell < 36; cell++) {
            board.draft(cell, (cell / 6 + cell) % 2);
        }
        Check.due("a chessboard", board.part(0, 1), 18);
        Check.due("a chessboard, the other", board.part(1, 1), 18);
        Check.due("a chessboard, no cells", board.part(2, 1), 0);
        FrozenDistricts corners = new FrozenDistricts();
        for (int cell : new int[] {0, 5, 30, 35}) {
            corners.draft(cell, 3);
        }
        Check.due("the corners", corners.part(3, 1), 4);
        FrozenDistricts joined = new FrozenDistricts();
        for (int cell : new int[] {12, 13, 15, 16}) {
            joined.draft(cell, 0);
        }
        Check.due("two pieces", joined.part(0, 1), 2);
        joined.draft(14, 0);
        Check.due("joined", joined.part(0, 1), 1);
        joined.draft(14, 1);
        Check.due("parted by another part", joined.part(0, 1), 2);
        FrozenDistricts later = Check.made(x -> {
            x.begin(3);
            Play.turn(x, 1);
            x.snake(true);
        });
        Check.due("parted by a frozen district", later.part(0, 1), 2);
    }

    // "Borders are the sides of cells: those of some cells are the sides that lead to other cells or to the outside."
    private static void bordersOfAPart() {
        Check.due("no cells", new FrozenDistricts().part(0, 2), 0);
        for (int cell = 0; cell < 36; cell++) {
            int each = cell;
            Check.due("one cell", Check.made(x -> x.draft(each, 2)).part(2, 2), 4);
        }
        FrozenDistricts all = new FrozenDistricts();
        for (int cell = 0; cell < 36; cell++) {
            all.draft(cell, 0);
        }
        Check.due("to the outside alone", all.part(0, 2), 24);
        all.draft(14, -1);
        Check.due("around a cell without a part, too", all.part(0, 2), 28);
        all.draft(14, 1);
        Check.due("around another part", all.part(0, 2), 28);
        Check.due("of that part", all.part(1, 2), 4);
        FrozenDistricts frozen = Check.made(x -> {
            x.begin(3);
            Play.turn(x, 1);
            x.snake(false);
        });
        Check.due("to a frozen district", frozen.part(0, 2), 16);
        FrozenDistricts corner = new FrozenDistricts();
        corner.draft(0, 0);
        corner.draft(7, 0);
        Check.due("two at a corner", corner.part(0, 2), 8);
    }

    // "2 for its borders" of a district: to other districts, to open cells, to the outside
    private static void bordersOfADistrict() {
        int[] borders = {18, 16, 16, 14, 10};
        for (int each = 0; each < borders.length; each++) {
            int n = Play.NUMBERS[each];
            FrozenDistricts x = Check.made(y -> {
                y.begin(n);
                Play.turn(y, 0);
            });
            Check.due("the first of " + n, x.district(0, 2), borders[each]);
        }
        FrozenDistricts x = Check.made(y -> Play.turn(y, 1));
        Check.due("next to open cells", x.district(0, 2), 16);
        x.draft(0, 0);
        x.draft(9, 0);
        Check.due("next to a part of its number", x.district(0, 2), 16);
        FrozenDistricts done = Check.made(y -> Play.toTheEnd(y, 4));
        for (int district = 0; district < 4; district++) {
            Check.due("next to other districts", done.district(district, 2), 16);
        }
    }

    // "won by the party whose margin is above 0; it is a draw if the margin is 0"; "1000 plus its margin for the party 0"
    private static void marginAboveBelowAndAtZero() {
        for (int first : DIGITS) {
            for (int second : DIGITS) {
                FrozenDistricts x = two(first, second, 0, 0);
                int winner = first > second ? 0 : first < second ? 1 : 2;
                String votes = first + " to " + second;
                Check.due("the part's margin, " + votes, x.part(0, 3), 1000 + first - second);
                Check.due("the part's winner, " + votes, x.part(0, 4), winner);
                Check.due("the empty part's winner", x.part(1, 4), 2);
                x.freeze(0);
                Check.due("the district's margin, " + votes, x.district(0, 3), 1000 + first - second);
                Check.due("the district's winner, " + votes, x.district(0, 4), winner);
                Check.due("the last one is a draw", x.district(1, 4), 2);
            }
        }
    }

    // "The margin of some cells for a party is the sum of its votes in them, less those of the other party."
    private static void theGreatestMargins() {
        for (int side = 0; side < 2; side++) {
            int first = side == 0 ? 9 : 0;
            FrozenDistricts x = Check.made(y -> {
                y.begin(2);
                for (int cell = 0; cell < 36; cell++) {
                    y.setVotes(cell, first, 9 - first);
                }
                Play.propose(y);
            });
            int sign = side == 0 ? 1 : -1;
            Check.due("of a part", x.part(1, 3), 1000 + 162 * sign);
            x.freeze(0);
            Check.due("of a district", x.district(1, 3), 1000 + 162 * sign);
            Check.due("all votes", x.party(side, 1), 324);
            Check.due("no votes", x.party(1 - side, 1), 0);
            x.begin(2);
            for (int cell = 0; cell < 36; cell++) {
                x.draft(cell, 0);
            }
            Check.due("of the whole map", x.part(0, 3), 1000 + 324 * sign);
        }
    }

    // "5 for its lowest cell (NONE if it has none)"
    private static void theLowestCell() {
        for (int part = 0; part < 4; part++) {
            Check.due("it has none", new FrozenDistricts().part(part, 5), -5);
        }
        for (int cell = 0; cell < 36; cell++) {
            int each = cell;
            FrozenDistricts x = Check.made(y -> {
                y.draft(35, 1);
                y.draft(each, 1);
            });
            Check.due("the lowest of two", x.part(1, 5), cell);
            Check.due("none of another", x.part(0, 5), -5);
        }
        FrozenDistricts done = Check.made(y -> Play.toTheEnd(y, 4));
        int[] lowest = {0, 6, 18, 27};
        for (int district = 0; district < 4; district++) {
            Check.due("of the district " + district, done.district(district, 5), lowest[district]);
        }
        FrozenDistricts last = Check.made(y -> Play.turn(y, 3));
        Check.due("of the one that was frozen first", last.district(0, 5), 27);
    }

    // "part: 0 to k - 1"; "UNKNOWN: There is no such ... part"
    private static void partsFromZeroToK() {
        for (int n : Play.NUMBERS) {
            for (int turns = 0; turns < n; turns++) {
                int made = turns;
                int k = turns == n - 1 ? 0 : n - turns;
                Check.Setup setup = x -> Play.turns(x, n, made);
                for (int part = 0; part < k; part++) {
                    Check.due("the part " + part + " of " + k, Check.made(setup).part(part, 0), 0);
                }
                for (int wrong : Play.outside(k)) {
                    for (int what = 0; what < 6; what++) {
                        Check.due("the part " + wrong + " of " + k, Check.made(setup).part(wrong, what), -1);
                    }
                }
            }
        }
    }

    // "district: a district that is frozen"
    private static void districtsThatAreFrozen() {
        for (int n : Play.NUMBERS) {
            for (int turns = 0; turns < n; turns++) {
                int made = turns;
                int frozen = turns == n - 1 ? n : turns;
                Check.Setup setup = x -> Play.turns(x, n, made);
                for (int district = 0; district < frozen; district++) {
                    Check.due("the district " + district, Check.made(setup).district(district, 0), 36 / n);
                }
                for (int wrong : Play.outside(frozen)) {
                    for (int what = 0; what < 8; what++) {
                        Check.due("the district " + wrong, Check.made(setup).district(wrong, what), -1);
                    }
                }
            }
        }
        FrozenDistricts undone = Check.made(x -> Play.turn(x, 0));
        undone.undo();
        Check.due("it is not frozen any more", undone.district(0, 0), -1);
    }

    // "BAD_VALUE: Another argument is out of range."
    private static void whatIsOutOfRange() {
        Check.Setup setup = x -> {
            Play.turn(x, 1);
            x.adopt();
        };
        for (int wrong : Play.outside(5)) {
            Check.refused("cell, what " + wrong, setup, x -> x.cell(0, wrong), -2);
            Check.refused("party, what " + wrong, setup, x -> x.party(1, wrong), -2);
        }
        for (int wrong : Play.outside(6)) {
            Check.refused("part, what " + wrong, setup, x -> x.part(0, wrong), -2);
        }
        for (int wrong : Play.outside(8)) {
            Check.refused("district, what " + wrong, setup, x -> x.district(0, wrong), -2);
        }
        for (int wrong : Play.outside(12)) {
            Check.refused("count, what " + wrong, setup, x -> x.count(wrong), -2);
        }
        Check.due("the last of cell", Check.made(setup).cell(0, 4), 1);
        Check.due("the last of part", Check.made(setup).part(0, 5), 0);
        Check.due("the last of district", Check.made(setup).district(0, 7), 0);
        Check.due("the last of party", Check.made(setup).party(1, 4), 0);
        Check.due("the last of count", Check.made(setup).count(11), 0);
    }

    // "Returns the number; UNKNOWN; BAD_VALUE.": in this order
    private static void anErrorOfTheNumberComesFirst() {
        Check.Setup setup = x -> Play.turn(x, 1);
        for (int wrong : new int[] {-1, 99, Integer.MIN_VALUE, Integer.MAX_VALUE}) {
            Check.refused("cell", setup, x -> x.cell(36, wrong), -1);
            Check.refused("cell below", setup, x -> x.cell(-1, wrong), -1);
            Check.refused("part", setup, x -> x.part(3, wrong), -1);
            Check.refused("part below", setup, x -> x.part(-1, wrong), -1);
            Check.refused("district", setup, x -> x.district(1, wrong), -1);
            Check.refused("district below", setup, x -> x.district(-1, wrong), -1);
            Check.refused("party", setup, x -> x.party(2, wrong), -1);
            Check.refused("party below", setup, x -> x.party(-1, wrong), -1);
        }
        for (int wrong : Play.outside(2)) {
            for (int what = 0; what < 5; what++) {
                int told = what;
                Check.refused("party " + wrong, setup, x -> x.party(wrong, told), -1);
            }
        }
    }

    // "1 for the player who froze it (that who cut, if it is the last one)"
    private static void whoFroze() {
        for (int n : Play.NUMBERS) {
            FrozenDistricts x = Check.made(y -> y.begin(n));
            for (int turn = 0; turn < n - 1; turn++) {
                int cutter = x.count(5);
                Play.propose(x);
                int freezer = x.count(5);
                Check.due("two players", cutter + freezer, 1);
                x.freeze(0);
                Check.due("who froze " + turn + " of " + n, x.district(turn, 1), freezer);
                if (turn == n - 2) {
                    Check.due("who cut the last of " + n, x.district(n - 1, 1), cutter);
                }
            }
            for (int turn = 0; turn < n - 1; turn++) {
                Check.due("it stays so: " + turn + " of " + n, x.district(turn, 1), 1 - turn % 2);
            }
        }
    }

    // "all votes of the party that has not won are wasted, and of the party that has won all that are more
    // than it needed: more than the other party's votes plus 1. (In a draw, all votes of both are wasted.)"
    private static void wastedVotes() {
        for (int first : DIGITS) {
            for (int second : DIGITS) {
                FrozenDistricts x = two(first, second, second, first);
                x.freeze(0);
                int wasted = first > second ? first - second - 1 : first;
                int others = second > first ? second - first - 1 : second;
                String votes = first + " to " + second;
                Check.due(votes + ", of the party 0", x.district(0, 6), wasted);
                Check.due(votes + ", of the party 1", x.district(0, 7), others);
                Check.due(votes + " the other way round, of the party 0", x.district(1, 6), others);
                Check.due(votes + " the other way round, of the party 1", x.district(1, 7), wasted);
            }
        }
        FrozenDistricts all = Check.made(x -> {
            for (int cell = 0; cell < 36; cell++) {
                x.setVotes(cell, 9, 0);
            }
            Play.toTheEnd(x, 2);
        });
        Check.due("more than one was needed", all.district(1, 6), 161);
    }

    // "2 for its votes that are wasted in all districts": those that are frozen
    private static void wastedVotesInAllDistricts() {
        FrozenDistricts x = two(5, 2, 3, 3);
        Check.due("nothing is frozen, 0", x.party(0, 2), 0);
        Check.due("nothing is frozen, 1", x.party(1, 2), 0);
        x.freeze(0);
        Check.due("in both, of 0", x.party(0, 2), 2 + 3);
        Check.due("in both, of 1", x.party(1, 2), 2 + 3);
        FrozenDistricts one = Check.made(y -> {
            y.setVotes(0, 7, 0);
            y.setVotes(35, 4, 4);
            Play.turn(y, 0);
            y.adopt();
        });
        Check.due("only in the frozen one, of 0", one.party(0, 2), 6);
        Check.due("only in the frozen one, of 1", one.party(1, 2), 0);
    }

    // "A district that is won is a seat.": a draw is none, nor is a part
    private static void aDrawIsNoSeat() {
        FrozenDistricts x = two(1, 0, 0, 0);
        Check.due("a part is no seat", x.party(0, 0), 0);
        x.freeze(0);
        Check.due("the seats of 0", x.party(0, 0), 1);
        Check.due("a draw is no seat of 1", x.party(1, 0), 0);
        x.setVotes(35, 0, 1);
        Check.due("won by one vote", x.party(1, 0), 1);
        x.setVotes(35, 1, 0);
        Check.due("both are of 0", x.party(0, 0), 2);
        Check.due("none of 1", x.party(1, 0), 0);
        FrozenDistricts nine = Check.made(y -> {
            for (int cell = 0; cell < 36; cell++) {
                y.setVotes(cell, 0, 1);
            }
            Play.toTheEnd(y, 9);
        });
        Check.due("all nine", nine.party(1, 0), 9);
        Check.due("none of nine", nine.party(0, 0), 0);
    }

    /** What is advised to the player 1 of four parts that have these margins for the party 0. */
    private static void advisedToOne(String what, int[] margins, int want) {
        int[] cells = {0, 6, 18, 35};
        FrozenDistricts x = Check.made(y -> {
            for (int part = 0; part < 4; part++) {
                y.setVotes(cells[part], Math.max(margins[part], 0), Math.max(-margins[part], 0));
            }
            Play.propose(y);
        });
        Check.due(what + ", to the player 1", x.advice(), want);
    }

    /** What is advised to the player 0 of three parts that have these margins for the party 0. */
    private static void advisedToZero(String what, int[] margins, int want) {
        int[] cells = {6, 18, 35};
        FrozenDistricts x = Check.made(y -> {
            for (int part = 0; part < 3; part++) {
                y.setVotes(cells[part], Math.max(margins[part], 0), Math.max(-margins[part], 0));
            }
            Play.turn(y, 0);
            Play.propose(y);
        });
        Check.due(what + ", to the player 0", x.advice(), want);
    }

    // "of those that this player's party wins, the one with the least margin"
    private static void adviceTheLeastMargin() {
        advisedToOne("the last has the least", new int[] {-9, -8, -7, -1}, 3);
        advisedToOne("the first has the least", new int[] {-1, -7, -8, -9}, 0);
        advisedToOne("won by one", new int[] {-2, -1, -2, -3}, 1);
        advisedToOne("only one is won", new int[] {9, 9, -9, 9}, 2);
        advisedToOne("the least of those that are won", new int[] {1, -5, 0, -4}, 3);
        advisedToZero("the last has the least", new int[] {9, 8, 1}, 2);
        advisedToZero("the first has the least", new int[] {1, 8, 9}, 0);
        advisedToZero("only one is won", new int[] {-9, 9, -9}, 1);
        advisedToZero("the least of those that are won", new int[] {-1, 5, 4}, 2);
    }

    // "if it wins none, the one with the greatest margin of the other party"
    private static void adviceTheGreatestMarginOfTheOther() {
        advisedToOne("the last has the greatest", new int[] {1, 2, 3, 4}, 3);
        advisedToOne("the first has the greatest", new int[] {9, 2, 3, 4}, 0);
        advisedToOne("one in between", new int[] {5, 6, 9, 8}, 2);
        advisedToZero("the last has the greatest", new int[] {-1, -2, -3}, 2);
        advisedToZero("the first has the greatest", new int[] {-9, -2, -3}, 0);
        advisedToZero("one in between", new int[] {-1, -2, -1}, 1);
    }

    // "of several the lowest one"
    private static void adviceTheLowestOfSeveral() {
        advisedToOne("all are won alike", new int[] {-3, -3, -3, -3}, 0);
        advisedToOne("two are won alike", new int[] {4, -3, 4, -3}, 1);
        advisedToOne("all are lost alike", new int[] {3, 3, 3, 3}, 0);
        advisedToOne("two are lost alike", new int[] {1, 2, 3, 3}, 2);
        advisedToZero("all are won alike", new int[] {3, 3, 3}, 0);
        advisedToZero("two are won alike", new int[] {5, 2, 2}, 1);
        advisedToZero("all are lost alike", new int[] {-3, -3, -3}, 0);
        advisedToZero("two are lost alike", new int[] {-1, -4, -4}, 1);
    }

    // "of those that this player's party wins": a draw is not won
    private static void adviceIfThereAreDraws() {
        advisedToOne("draws and one that is won", new int[] {0, 0, -9, 0}, 2);
        advisedToOne("draws and one that is lost", new int[] {0, 0, 0, 1}, 3);
        advisedToOne("draws alone", new int[] {0, 0, 0, 0}, 0);
        advisedToZero("draws and one that is won", new int[] {0, 9, 0}, 1);
        advisedToZero("draws and one that is lost", new int[] {0, 0, -1}, 2);
        advisedToZero("draws alone", new int[] {0, 0, 0}, 0);
    }

    // "NOT_POSSIBLE if no cut is proposed."
    private static void adviceOnlyIfACutIsProposed() {
        for (Map.Entry<String, Check.Setup> stage : Play.stages().entrySet()) {
            if (Check.made(stage.getValue()).count(4) != 1) {
                Check.refused(stage.getKey() + ", advice", stage.getValue(), FrozenDistricts::advice, -4);
            } else {
                Check.due(stage.getKey() + ", advice", Check.made(stage.getValue()).advice(), 0);
            }
        }
    }

    // "3 for 1000 plus its seats less the target of its player": above 1000 and below
    private static void seatsLessTheTarget() {
        FrozenDistricts x = Check.made(y -> {
            for (int cell = 0; cell < 36; cell++) {
                y.setVotes(cell, 1, 0);
            }
            y.setTarget(1, 9);
            Play.toTheEnd(y, 9);
        });
        Check.due("nine seats, no target", x.party(0, 3), 1009);
        Check.due("no seats, a target of nine", x.party(1, 3), 991);
        x.setTarget(0, 9);
        Check.due("nine seats, a target of nine", x.party(0, 3), 1000);
    }

    // "4 for parts that it wins in the draft or the cut that is proposed": not in districts
    private static void partsThatAPartyWins() {
        FrozenDistricts x = Check.made(y -> {
            y.setVotes(0, 1, 0);
            y.setVotes(6, 0, 1);
            y.setVotes(35, 3, 2);
        });
        Check.due("nothing is drafted", x.party(0, 4), 0);
        x.draft(0, 3);
        Check.due("a part of a draft", x.party(0, 4), 1);
        x.snake(false);
        Check.due("of 0 in the draft", x.party(0, 4), 2);
        Check.due("of 1 in the draft, a draw is none", x.party(1, 4), 1);
        x.propose();
        Check.due("of 0 in the cut", x.party(0, 4), 2);
        Check.due("of 1 in the cut", x.party(1, 4), 1);
        x.freeze(0);
        Check.due("not in districts", x.party(0, 4), 0);
        x.adopt();
        Check.due("in the next draft", x.party(0, 4), 1);
        Check.due("all is done", Check.made(y -> {
            y.setVotes(0, 5, 0);
            Play.toTheEnd(y, 2);
        }).party(0, 4), 0);
    }

    // "100000 plus the seats of the party 0 * all votes on the map, less the frozen districts * the votes for the party 0"
    private static void fairnessOfFrozenDistricts() {
        Check.due("no votes", new FrozenDistricts().fairness(), 100000);
        FrozenDistricts x = two(5, 2, 0, 4);
        Check.due("nothing is frozen", x.fairness(), 100000);
        x.freeze(0);
        Check.due("one seat of two", x.fairness(), 100000 + 11 - 2 * 5);
        x.setVotes(0, 2, 2);
        Check.due("a draw and none", x.fairness(), 100000 - 2 * 2);
        x.setVotes(0, 2, 3);
        Check.due("no seat", x.fairness(), 100000 - 2 * 2);
        FrozenDistricts one = Check.made(y -> {
            y.setVotes(0, 3, 0);
            y.setVotes(35, 2, 1);
            Play.turn(y, 3);
        });
        Check.due("one is frozen, all votes count", one.fairness(), 100000 + 6 - 5);
    }

    private static void theGreatestFairness() {
        FrozenDistricts x = Check.made(y -> {
            for (int cell = 0; cell < 36; cell++) {
                y.setVotes(cell, 9, 8);
            }
            Play.toTheEnd(y, 9);
        });
        Check.due("nine seats", x.fairness(), 100000 + 9 * 612 - 9 * 324);
        FrozenDistricts y = Check.made(z -> {
            for (int cell = 0; cell < 36; cell++) {
                z.setVotes(cell, 9, 9);
            }
            Play.toTheEnd(z, 9);
        });
        Check.due("nine draws", y.fairness(), 100000 - 9 * 324);
    }

    // promise 24: what is told at first and when all is done, of each number of districts
    private static void countsAtTheEnds() {
        int[] borders = {36, 48, 64, 84, 84};
        for (int each = 0; each < borders.length; each++) {
            int n = Play.NUMBERS[each];
            int[] begun = {n, 36 / n, 0, n, 0, 0, 36, 36, 0, 0, 1, 0};
            int[] done = {n, 36 / n, n, 0, 2, -5, 0, 0, borders[each], n, 4, 0};
            for (int what = 0; what < 12; what++) {
                Check.due("begun " + n + ", count(" + what + ")", Check.made(x -> x.begin(n)).count(what), begun[what]);
                Check.due("done " + n + ", count(" + what + ")",
                    Check.made(x -> Play.toTheEnd(x, n)).count(what), done[what]);
            }
        }
    }

    // "6 for open cells, 7 for open cells without a part"
    private static void countOfOpenCellsWithoutAPart() {
        FrozenDistricts x = new FrozenDistricts();
        for (int cell = 0; cell < 36; cell++) {
            Check.due("open", x.count(6), 36);
            Check.due("without a part", x.count(7), 36 - cell);
            x.draft(cell, cell / 9);
        }
        Check.due("none without a part", x.count(7), 0);
        FrozenDistricts y = Check.made(z -> Play.turn(z, 2));
        Check.due("open, but for the frozen ones", y.count(6), 27);
        Check.due("without a part, but for the frozen ones", y.count(7), 27);
        y.draft(0, 0);
        Check.due("one less", y.count(7), 26);
        Check.due("still open", y.count(6), 27);
    }

    // "8 for the sum of the borders of each district": a side between two counts for both
    private static void bordersOfEachDistrict() {
        FrozenDistricts x = Check.made(y -> y.begin(2));
        Check.due("no district", x.count(8), 0);
        Play.propose(x);
        Check.due("parts are no districts", x.count(8), 0);
        x.freeze(0);
        Check.due("two halves", x.count(8), 36);
        FrozenDistricts y = Check.made(z -> Play.turns(z, 4, 2));
        Check.due("two of four", y.count(8), 32);
    }

    // "9 for districts that are draws"
    private static void districtsThatAreDraws() {
        FrozenDistricts x = two(3, 3, 2, 1);
        Check.due("parts are no districts", x.count(9), 0);
        x.freeze(0);
        Check.due("one of two", x.count(9), 1);
        x.setVotes(35, 2, 2);
        Check.due("both", x.count(9), 2);
        x.setVotes(0, 3, 4);
        x.setVotes(35, 3, 2);
        Check.due("none", x.count(9), 0);
    }
}
