/** Promises 1 to 4: a new object, setVotes, begin, setTarget. */
public final class MapTest {
    public static void main(String[] args) {
        constants();
        newObject();
        setVotes();
        setVotesIsRefused();
        begin();
        beginIsRefused();
        setTarget();
        setTargetIsRefused();
        Check.end("MapTest");
    }

    private static void constants() {
        Check.due("UNKNOWN", FrozenDistricts.UNKNOWN, -1);
        Check.due("BAD_VALUE", FrozenDistricts.BAD_VALUE, -2);
        Check.due("FULL", FrozenDistricts.FULL, -3);
        Check.due("NOT_POSSIBLE", FrozenDistricts.NOT_POSSIBLE, -4);
        Check.due("NONE", FrozenDistricts.NONE, -5);
    }

    private static void newObject() {
        FrozenDistricts x = new FrozenDistricts();
        for (int cell = 0; cell < 36; cell++) {
            Check.due("1: votes of " + cell, x.cell(cell, 0) + x.cell(cell, 1), 0);
            Check.due("1: part of " + cell, x.cell(cell, 2), -5);
            Check.due("1: district of " + cell, x.cell(cell, 3), -5);
        }
        int[] counts = {4, 9, 0, 4, 0, 0, 36, 36, 0, 0, 0, 0};
        for (int what = 0; what < counts.length; what++) {
            Check.due("1: count(" + what + ")", x.count(what), counts[what]);
        }
        Check.due("1: no history", x.undo(), -5);
        Check.due("1: no snapshot", x.restore(), -5);
        Check.due("1: no target of 0", x.party(0, 3), 1000);
        Check.due("1: no target of 1", x.party(1, 3), 1000);
        Check.due("1: an empty text", x.clearText(), 0);
    }

    private static void setVotes() {
        FrozenDistricts x = new FrozenDistricts();
        Check.due("2: at first", x.setVotes(0, 3, 7), 0);
        Check.due("2: what was before", x.setVotes(0, 9, 9), 37);
        Check.due("2: only the second differs", x.setVotes(0, 9, 0), 99);
        Check.due("2: only the first differs", x.setVotes(0, 0, 0), 90);
        Check.due("2: the last cell", x.setVotes(35, 0, 9), 0);
        Check.due("2: set for 0", x.cell(35, 0), 0);
        Check.due("2: set for 1", x.cell(35, 1), 9);
        Check.due("2: another cell stays", x.cell(34, 1), 0);
        Check.due("2: each is an act", x.count(10), 4);
        Check.due("2: undone", x.undo(), 3);
        Check.due("2: as before", x.cell(35, 1), 0);
        FrozenDistricts y = Check.made(MapTest::freezeOne);
        Check.due("2: of a frozen cell", y.setVotes(0, 5, 2), 0);
        Check.due("2: the district follows", y.district(0, 3), 1003);
        FrozenDistricts z = Check.made(MapTest::freezeAll);
        Check.due("2: when all is done", z.setVotes(0, 5, 2), 0);
        Check.due("2: when all is done, told", z.cell(0, 0), 5);
    }

    private static void setVotesIsRefused() {
        Check.Setup setup = x -> x.setVotes(7, 1, 2);
        Check.refused("2: cell -1", setup, x -> x.setVotes(-1, 1, 1), -1);
        Check.refused("2: cell 36", setup, x -> x.setVotes(36, 1, 1), -1);
        Check.refused("2: the least cell", setup, x -> x.setVotes(Integer.MIN_VALUE, 1, 1), -1);
        Check.refused("2: the greatest cell", setup, x -> x.setVotes(Integer.MAX_VALUE, 1, 1), -1);
        Check.refused("2: the cell is looked at first", setup, x -> x.setVotes(36, 10, 10), -1);
        Check.refused("2: first 10", setup, x -> x.setVotes(7, 10, 2), -2);
        Check.refused("2: first -1", setup, x -> x.setVotes(7, -1, 2), -2);
        Check.refused("2: second 10", setup, x -> x.setVotes(7, 1, 10), -2);
        Check.refused("2: second -1", setup, x -> x.setVotes(7, 1, -1), -2);
        Check.refused("2: both so already", setup, x -> x.setVotes(7, 1, 2), -5);
        Check.refused("2: both so at first", setup, x -> x.setVotes(8, 0, 0), -5);
    }

    private static void begin() {
        int[] districts = {2, 3, 4, 6, 9};
        int[] sizes = {18, 12, 9, 6, 4};
        for (int each = 0; each < districts.length; each++) {
            FrozenDistricts x = new FrozenDistricts();
            Check.due("3: begin", x.begin(districts[each]), sizes[each]);
            Check.due("3: n", x.count(0), districts[each]);
            Check.due("3: the size", x.count(1), sizes[each]);
            Check.due("3: k", x.count(3), districts[each]);
        }
        FrozenDistricts x = Check.made(y -> {
            freezeOne(y);
            y.setVotes(0, 4, 1);
            y.setTarget(1, 3);
            y.snake(false);
        });
        Check.due("3: the player 1 cuts before", x.count(5), 1);
        Check.due("3: anew", x.begin(4), 9);
        Check.due("3: nothing is frozen", x.count(2), 0);
        Check.due("3: all cells are open", x.count(6), 36);
        Check.due("3: the draft is empty", x.count(7), 36);
        Check.due("3: the player 0 cuts", x.count(5), 0);
        Check.due("3: to be cut", x.count(4), 0);
        Check.due("3: no cut since then", x.adopt(), -4);
        Check.due("3: votes stay", x.cell(0, 0), 4);
        Check.due("3: targets stay", x.party(1, 3), 997);
        Check.due("3: an act, the history stays", x.count(10), 4);
        Check.due("3: undone", x.undo(), 3);
        Check.due("3: frozen as before", x.count(2), 1);
        FrozenDistricts y = new FrozenDistricts();
        y.begin(4);
        Check.due("3: an act also if nothing differs", y.count(10), 1);
        FrozenDistricts z = Check.made(MapTest::freezeAll);
        Check.due("3: when all is done", z.begin(9), 4);
        Check.due("3: to be cut again", z.count(4), 0);
        FrozenDistricts proposed = Check.made(v -> {
            v.snake(false);
            v.propose();
        });
        Check.due("3: while a cut is proposed", proposed.begin(2), 18);
        Check.due("3: no cut is proposed then", proposed.freeze(0), -4);
    }

    private static void beginIsRefused() {
        int[] wrong = {0, 1, 5, 7, 8, 10, 12, 18, 36, -1, -2, -4, Integer.MIN_VALUE, Integer.MAX_VALUE};
        for (int districts : wrong) {
            Check.refused("3: begin(" + districts + ")", MapTest::freezeOne, x -> x.begin(districts), -2);
        }
    }

    private static void setTarget() {
        FrozenDistricts x = new FrozenDistricts();
        Check.due("4: at first", x.setTarget(0, 9), 0);
        Check.due("4: what was before", x.setTarget(0, 2), 9);
        Check.due("4: the other player's", x.setTarget(1, 5), 0);
        Check.due("4: of 0", x.party(0, 3), 998);
        Check.due("4: of 1", x.party(1, 3), 995);
        Check.due("4: to 0 again", x.setTarget(1, 0), 5);
        Check.due("4: each is an act", x.count(10), 4);
        Check.due("4: undone", x.undo(), 3);
        Check.due("4: as before", x.party(1, 3), 995);
    }

    private static void setTargetIsRefused() {
        Check.Setup setup = x -> x.setTarget(1, 4);
        Check.refused("4: player -1", setup, x -> x.setTarget(-1, 1), -1);
        Check.refused("4: player 2", setup, x -> x.setTarget(2, 1), -1);
        Check.refused("4: the player is looked at first", setup, x -> x.setTarget(2, 10), -1);
        Check.refused("4: seats -1", setup, x -> x.setTarget(0, -1), -2);
        Check.refused("4: seats 10", setup, x -> x.setTarget(0, 10), -2);
        Check.refused("4: so already", setup, x -> x.setTarget(1, 4), -5);
        Check.refused("4: so at first", setup, x -> x.setTarget(0, 0), -5);
    }

    private static void freezeOne(FrozenDistricts x) {
        x.snake(false);
        x.propose();
        x.freeze(0);
    }

    private static void freezeAll(FrozenDistricts x) {
        x.begin(2);
        freezeOne(x);
    }
}
