import java.util.Map;

/** The edges of the document's sentences on the map and of its promises 1 to 4, each with a test of its own. */
public final class MapEdgesTest {
    public static void main(String[] args) {
        cellsFromZeroToThirtyFive();
        rowByRow();
        nextIfTheyShareASide();
        votesFromZeroToNine();
        votesAtFirstZero();
        playersAndParties();
        newObject();
        votesOfFrozenCells();
        votesBefore();
        votesSoAlready();
        votesOrderOfErrors();
        districtsInNumber();
        sizeOfADistrict();
        beginsAnew();
        votesAndTargetsStay();
        beginIsAlwaysAnAct();
        targetsFromZeroToNine();
        targetBefore();
        targetSoAlready();
        targetOrderOfErrors();
        fiveHundredAndTwelveCalls();
        Check.end("MapEdgesTest");
    }

    // "The map has 6 rows of 6 cells, numbered from 0 to 35"; "UNKNOWN: There is no such cell"
    private static void cellsFromZeroToThirtyFive() {
        Check.Setup setup = x -> {
            x.snake(false);
            x.type('1');
            x.type('1');
        };
        for (int cell : Play.outside(36)) {
            Check.refused("setVotes of cell " + cell, setup, x -> x.setVotes(cell, 1, 1), -1);
            Check.refused("draft of cell " + cell, setup, x -> x.draft(cell, 1), -1);
            Check.refused("trade of cell " + cell, setup, x -> x.trade(cell, 0), -1);
            Check.refused("trade with cell " + cell, setup, x -> x.trade(0, cell), -1);
            Check.refused("trade of cell " + cell + " with itself", setup, x -> x.trade(cell, cell), -1);
            Check.refused("readVotes of cell " + cell, setup, x -> x.readVotes(cell), -1);
            for (int what = 0; what < 5; what++) {
                int told = what;
                Check.refused("cell of cell " + cell, setup, x -> x.cell(cell, told), -1);
            }
        }
        FrozenDistricts x = Check.made(setup);
        Check.due("setVotes of the cell 0", x.setVotes(0, 1, 2), 0);
        Check.due("setVotes of the cell 35", x.setVotes(35, 3, 4), 0);
        Check.due("cell of the cell 0", x.cell(0, 1), 2);
        Check.due("cell of the cell 35", x.cell(35, 0), 3);
        Check.due("draft of the cell 0", x.draft(0, -1), 0);
        Check.due("draft of the cell 35", x.draft(35, 0), 3);
        Check.due("trade of the cell 35", x.trade(35, 34), 0);
        Check.due("trade with the cell 35", x.trade(34, 35), 0);
        Check.due("readVotes of the cell 0", x.readVotes(0), 1);
        Check.due("readVotes of the cell 35", x.readVotes(35), 1);
    }

    // "row by row from the upper left": the next row begins below the cell 0
    private static void rowByRow() {
        FrozenDistricts x = new FrozenDistricts();
        x.snake(false);
        Check.due("the row 0 ends with the cell 5", x.cell(5, 2), 0);
        Check.due("the row 1 is taken from the right", x.cell(11, 2), 0);
        Check.due("the row 1 is taken from the right, its left", x.cell(6, 2), 1);
        Check.due("the last row's last cell", x.cell(35, 2), 3);
        x.snake(true);
        Check.due("the upper left", x.cell(0, 2), 0);
        Check.due("the lower left is in the first column", x.cell(30, 2), 0);
        Check.due("the upper right is in the last column", x.cell(5, 2), 3);
    }

    // "Cells are next to one another if they share a side": each pair of cells is tried
    private static void nextIfTheyShareASide() {
        for (int cell = 0; cell < 36; cell++) {
            for (int other = 0; other < 36; other++) {
                if (other == cell) {
                    continue;
                }
                FrozenDistricts x = new FrozenDistricts();
                x.draft(cell, 2);
                x.draft(other, 2);
                int apart = Math.abs(cell / 6 - other / 6) + Math.abs(cell % 6 - other % 6);
                int next = apart == 1 ? 1 : 0;
                String pair = cell + " and " + other;
                Check.due("next to one another: " + pair, x.cell(cell, 4), next);
                Check.due("connected: " + pair, x.part(2, 1), 2 - next);
                Check.due("sides of " + pair, x.part(2, 2), 8 - 2 * next);
            }
        }
    }

    // "A cell has votes for the party 0 and for the party 1 (0 to 9 each": 10 and -1 are out of range
    private static void votesFromZeroToNine() {
        for (int first = 0; first <= 9; first++) {
            for (int second = 0; second <= 9; second++) {
                FrozenDistricts x = Check.made(y -> y.setVotes(13, 4, 4));
                int votes = 10 * first + second;
                Check.due("votes " + votes, x.setVotes(13, first, second), votes == 44 ? -5 : 44);
                Check.due("votes for 0", x.cell(13, 0), first);
                Check.due("votes for 1", x.cell(13, 1), second);
            }
        }
        Check.Setup setup = x -> x.setVotes(13, 4, 4);
        for (int wrong : Play.outside(10)) {
            Check.refused("first " + wrong, setup, x -> x.setVotes(13, wrong, 5), -2);
            Check.refused("second " + wrong, setup, x -> x.setVotes(13, 5, wrong), -2);
            Check.refused("both " + wrong, setup, x -> x.setVotes(13, wrong, wrong), -2);
            Check.refused("first " + wrong + ", second so already", setup, x -> x.setVotes(13, wrong, 4), -2);
            Check.refused("second " + wrong + ", first so already", setup, x -> x.setVotes(13, 4, wrong), -2);
        }
    }

    // "at first 0)"
    private static void votesAtFirstZero() {
        for (int cell = 0; cell < 36; cell++) {
            int each = cell;
            Check.refused("no votes at first of " + cell, x -> { }, x -> x.setVotes(each, 0, 0), -5);
        }
    }

    // "the player 0 is of the party 0, the player 1 of the party 1"
    private static void playersAndParties() {
        FrozenDistricts x = Check.made(y -> y.setTarget(0, 4));
        Check.due("the party 0 has the target of the player 0", x.party(0, 3), 996);
        Check.due("the party 1 has not", x.party(1, 3), 1000);
        FrozenDistricts y = Check.made(z -> {
            z.setVotes(0, 5, 0);
            z.setVotes(35, 0, 5);
            Play.propose(z);
        });
        Check.due("the player 1 freezes what the party 1 wins", y.advice(), 3);
        FrozenDistricts z = Check.made(v -> {
            v.setVotes(0, 5, 0);
            v.setVotes(35, 0, 5);
            Play.turn(v, 1);
            Play.propose(v);
        });
        Check.due("the player 0 freezes what the party 0 wins", z.advice(), 0);
    }

    // "Creates a map without votes."
    private static void newObject() {
        FrozenDistricts x = new FrozenDistricts();
        Check.due("no votes for 0", x.party(0, 1), 0);
        Check.due("no votes for 1", x.party(1, 1), 0);
        for (int cell = 0; cell < 36; cell++) {
            Check.due("no votes for 0 of " + cell, x.cell(cell, 0), 0);
            Check.due("no votes for 1 of " + cell, x.cell(cell, 1), 0);
        }
        FrozenDistricts first = Check.made(y -> y.setVotes(0, 9, 9));
        Check.due("the one has votes", first.party(0, 1), 9);
        Check.due("another new one has none", new FrozenDistricts().party(0, 1), 0);
    }

    // "Sets the votes of a cell (also if it is frozen)": at each stage, and also when all is done
    private static void votesOfFrozenCells() {
        for (Map.Entry<String, Check.Setup> stage : Play.stages().entrySet()) {
            for (int cell = 0; cell < 36; cell++) {
                FrozenDistricts x = Check.made(stage.getValue());
                Check.due(stage.getKey() + ", votes of " + cell, x.setVotes(cell, 0, 7), 0);
                Check.due(stage.getKey() + ", they are set", x.cell(cell, 1), 7);
                Check.due(stage.getKey() + ", they count", x.party(1, 1), 7);
            }
        }
    }

    // "10 * first + second as they were before"
    private static void votesBefore() {
        FrozenDistricts x = new FrozenDistricts();
        int before = 0;
        for (int votes : new int[] {9, 90, 99, 1, 10, 11, 19, 91, 0}) {
            Check.due("votes before " + votes, x.setVotes(20, votes / 10, votes % 10), before);
            before = votes;
        }
    }

    // "NONE if both are so already": one of both alone is not enough
    private static void votesSoAlready() {
        Check.Setup setup = x -> x.setVotes(35, 3, 8);
        Check.refused("both are so", setup, x -> x.setVotes(35, 3, 8), -5);
        Check.due("only the first is so", Check.made(setup).setVotes(35, 3, 9), 38);
        Check.due("only the second is so", Check.made(setup).setVotes(35, 2, 8), 38);
        Check.due("they are so the other way round", Check.made(setup).setVotes(35, 8, 3), 38);
        Check.due("another cell is so", Check.made(setup).setVotes(34, 3, 8), 0);
    }

    // "UNKNOWN; BAD_VALUE; NONE": in this order
    private static void votesOrderOfErrors() {
        Check.Setup none = x -> { };
        Check.refused("no cell and bad votes", none, x -> x.setVotes(36, 10, 10), -1);
        Check.refused("no cell and bad votes below", none, x -> x.setVotes(-1, -1, -1), -1);
        Check.refused("no cell, the votes of each cell", none, x -> x.setVotes(36, 0, 0), -1);
        Check.refused("bad votes, one of both so already", none, x -> x.setVotes(0, 0, 10), -2);
    }

    // "districts (2, 3, 4, 6 or 9; at first 4)": each other number is out of range
    private static void districtsInNumber() {
        Check.due("at first 4", new FrozenDistricts().count(0), 4);
        for (int number = -40; number <= 80; number++) {
            int n = number;
            boolean good = n == 2 || n == 3 || n == 4 || n == 6 || n == 9;
            if (good) {
                FrozenDistricts x = new FrozenDistricts();
                Check.due("begin(" + n + ")", x.begin(n), 36 / n);
                Check.due("n", x.count(0), n);
            } else {
                Check.refused("begin(" + n + ")", Play::propose, x -> x.begin(n), -2);
            }
        }
        Check.refused("begin of the least", Play::propose, x -> x.begin(Integer.MIN_VALUE), -2);
        Check.refused("begin of the greatest", Play::propose, x -> x.begin(Integer.MAX_VALUE), -2);
        Check.refused("begin of 2 to the 16th and 4", Play::propose, x -> x.begin(65540), -2);
    }

    // "each of 36 / n cells (the size)"
    private static void sizeOfADistrict() {
        int[] sizes = {18, 12, 9, 6, 4};
        for (int each = 0; each < sizes.length; each++) {
            int n = Play.NUMBERS[each];
            FrozenDistricts x = Check.made(y -> Play.toTheEnd(y, n));
            Check.due("the size of one of " + n, x.count(1), sizes[each]);
            for (int district = 0; district < n; district++) {
                Check.due("the cells of the district " + district, x.district(district, 0), sizes[each]);
            }
        }
    }

    // "Begins anew ...: nothing is frozen, the draft is empty, the player 0 cuts": from each stage
    private static void beginsAnew() {
        for (Map.Entry<String, Check.Setup> stage : Play.stages().entrySet()) {
            for (int n : Play.NUMBERS) {
                FrozenDistricts x = Check.made(stage.getValue());
                String what = stage.getKey() + ", begin(" + n + ")";
                Check.due(what, x.begin(n), 36 / n);
                Check.due(what + ", frozen", x.count(2), 0);
                Check.due(what + ", no district", x.district(0, 0), -1);
                Check.due(what + ", open", x.count(6), 36);
                Check.due(what + ", without a part", x.count(7), 36);
                Check.due(what + ", to cut", x.count(4), 0);
                Check.due(what + ", the player", x.count(5), 0);
                Check.due(what + ", no latest cut", x.adopt(), -4);
                int states = x.count(10);
                Check.alike(what + ", like a new object", x, Check.made(y -> {
                    for (int act = 0; act < states; act++) {
                        y.begin(n);
                    }
                }));
            }
        }
    }

    // "votes and targets stay"
    private static void votesAndTargetsStay() {
        for (Map.Entry<String, Check.Setup> stage : Play.stages().entrySet()) {
            FrozenDistricts x = Check.made(y -> {
                stage.getValue().on(y);
                y.setVotes(0, 9, 1);
                y.setVotes(35, 2, 8);
                y.setTarget(0, 3);
                y.setTarget(1, 9);
                y.begin(9);
            });
            String what = stage.getKey() + ", begun";
            Check.due(what + ", votes of 0", 10 * x.cell(0, 0) + x.cell(0, 1), 91);
            Check.due(what + ", votes of 35", 10 * x.cell(35, 0) + x.cell(35, 1), 28);
            Check.due(what + ", the target of 0", x.party(0, 3), 997);
            Check.due(what + ", the target of 1", x.party(1, 3), 991);
        }
    }

    // "This is an act.", and the promise names no NONE
    private static void beginIsAlwaysAnAct() {
        FrozenDistricts x = new FrozenDistricts();
        Check.due("begun as it was", x.begin(4), 9);
        Check.due("is an act", x.count(10), 1);
        Check.due("begun once more", x.begin(4), 9);
        Check.due("is an act, too", x.count(10), 2);
    }

    // "seats: 0 to 9"; "player: 0 or 1"
    private static void targetsFromZeroToNine() {
        for (int player = 0; player < 2; player++) {
            for (int seats = 1; seats <= 9; seats++) {
                FrozenDistricts x = new FrozenDistricts();
                Check.due("target " + seats + " of " + player, x.setTarget(player, seats), 0);
                Check.due("is told", x.party(player, 3), 1000 - seats);
                Check.due("the other one stays", x.party(1 - player, 3), 1000);
            }
        }
        Check.Setup setup = x -> x.setTarget(1, 4);
        for (int wrong : Play.outside(10)) {
            Check.refused("seats " + wrong, setup, x -> x.setTarget(1, wrong), -2);
            Check.refused("seats of 0 " + wrong, setup, x -> x.setTarget(0, wrong), -2);
        }
        for (int wrong : Play.outside(2)) {
            Check.refused("player " + wrong, setup, x -> x.setTarget(wrong, 5), -1);
        }
    }

    // "Returns the previous target (at first 0)"
    private static void targetBefore() {
        FrozenDistricts x = new FrozenDistricts();
        Check.due("at first 0", x.setTarget(0, 9), 0);
        Check.due("at first 0, the other", x.setTarget(1, 1), 0);
        Check.due("the previous one", x.setTarget(0, 8), 9);
        Check.due("the previous one, the other", x.setTarget(1, 0), 1);
        Check.due("0 again", x.setTarget(1, 2), 0);
        for (Map.Entry<String, Check.Setup> stage : Play.stages().entrySet()) {
            FrozenDistricts y = Check.made(stage.getValue());
            Check.due(stage.getKey() + ", a target", y.setTarget(1, 7), 0);
            Check.due(stage.getKey() + ", another", y.setTarget(1, 6), 7);
        }
    }

    // "NONE if it is so already"
    private static void targetSoAlready() {
        Check.refused("0 at first", x -> { }, x -> x.setTarget(0, 0), -5);
        Check.refused("0 at first, the other", x -> x.setTarget(0, 2), x -> x.setTarget(1, 0), -5);
        Check.refused("9 already", x -> x.setTarget(1, 9), x -> x.setTarget(1, 9), -5);
        Check.due("the other has it", Check.made(x -> x.setTarget(1, 9)).setTarget(0, 9), 0);
    }

    // "UNKNOWN; BAD_VALUE": in this order
    private static void targetOrderOfErrors() {
        Check.refused("no player and bad seats", x -> { }, x -> x.setTarget(2, 10), -1);
        Check.refused("no player and bad seats below", x -> { }, x -> x.setTarget(-1, -1), -1);
        Check.refused("no player, the target of each", x -> { }, x -> x.setTarget(2, 0), -1);
    }

    // "An object is used for at most 512 calls after it has been made"
    private static void fiveHundredAndTwelveCalls() {
        FrozenDistricts x = new FrozenDistricts();
        for (int call = 1; call <= 510; call++) {
            Check.due("call " + call, x.setTarget(1, call % 10), (call - 1) % 10);
        }
        Check.due("call 511", x.count(10), 4);
        Check.due("call 512", x.undo(), 3);
    }
}
