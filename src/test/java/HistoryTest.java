/** Promises 14 to 16: undo, keep, restore. */
public final class HistoryTest {
    public static void main(String[] args) {
        undo();
        undoIsRefused();
        undoBringsEverythingBack();
        whatIsNoAct();
        keep();
        restore();
        restoreIsRefused();
        Check.end("HistoryTest");
    }

    private static void undo() {
        FrozenDistricts x = new FrozenDistricts();
        for (int votes = 1; votes <= 6; votes++) {
            x.setVotes(0, votes, 0);
            Check.due("14: states of the history", x.count(10), Math.min(votes, 4));
        }
        for (int left = 3; left >= 0; left--) {
            Check.due("14: states that are left", x.undo(), left);
            Check.due("14: the latest one", x.cell(0, 0), left + 2);
        }
        Check.due("14: the oldest ones were dropped", x.undo(), -5);
        Check.due("14: nothing more is undone", x.cell(0, 0), 2);
        for (int votes = 3; votes <= 8; votes++) {
            x.setVotes(0, votes, 0);
            if (votes % 2 == 0) {
                x.undo();
            }
        }
        Check.due("14: acts and undone ones", x.cell(0, 0), 7);
        Check.due("14: their states", x.count(10), 3);
        Check.due("14: the one before", x.undo(), 2);
        Check.due("14: its votes", x.cell(0, 0), 5);
    }

    private static void undoIsRefused() {
        Check.refused("14: empty at first", x -> x.keep(), FrozenDistricts::undo, -5);
        Check.refused("14: empty then", x -> {
            x.setTarget(0, 3);
            x.undo();
        }, FrozenDistricts::undo, -5);
    }

    private static void undoBringsEverythingBack() {
        Check.Setup rich = x -> {
            Check.write(x, "10,20,03,40,05,66");
            x.readVotes(3);
            x.setTarget(0, 2);
            x.setTarget(1, 3);
            x.snake(false);
            x.propose();
            x.freeze(2);
            x.snake(true);
        };
        Check.Call[] acts = {
            x -> x.setVotes(3, 9, 9), x -> x.begin(9), x -> x.setTarget(1, 9), x -> x.draft(0, -1),
            x -> x.trade(0, 3), x -> x.snake(false), x -> x.adopt(), x -> x.readVotes(0),
        };
        for (int act = 0; act < acts.length; act++) {
            FrozenDistricts x = Check.made(rich);
            Check.isTrue("14: an act " + act, acts[act].on(x) > -2);
            Check.due("14: undone " + act, x.undo(), 3);
            FrozenDistricts y = Check.made(rich);
            for (int cell = 0; cell < 36; cell++) {
                Check.due("14: the part", x.cell(cell, 2), y.cell(cell, 2));
                Check.due("14: the district", x.cell(cell, 3), y.cell(cell, 3));
                Check.due("14: the votes", x.cell(cell, 0), y.cell(cell, 0));
                Check.due("14: the other votes", x.cell(cell, 1), y.cell(cell, 1));
            }
            Check.due("14: n", x.count(0), 4);
            Check.due("14: the target", x.party(1, 3), y.party(1, 3));
            Check.due("14: who froze", x.district(0, 1), 1);
            Check.due("14: who is to cut", x.count(5), 1);
            Check.due("14: the latest cut", x.adopt(), 3);
            Check.due("14: the latest cut's parts", x.cell(35, 2), 2);
        }
        FrozenDistricts text = Check.made(x -> {
            x.setTarget(0, 1);
            x.type('4');
            x.undo();
        });
        Check.due("14: the text is no part of a state", text.count(11), 1);
    }

    private static void whatIsNoAct() {
        FrozenDistricts x = new FrozenDistricts();
        x.type('1');
        x.clearText();
        x.keep();
        Check.look(x, false);
        Check.due("14: what is no act records nothing", x.count(10), 0);
        FrozenDistricts y = Check.made(z -> {
            z.setTarget(0, 1);
            z.setTarget(0, 2);
            z.undo();
        });
        Check.due("14: undo is no act", y.count(10), 1);
        Check.due("14: undo goes on", y.undo(), 0);
        Check.due("14: back to the first", y.party(0, 3), 1000);
    }

    private static void keep() {
        FrozenDistricts x = new FrozenDistricts();
        Check.due("15: nothing is frozen", x.keep(), 0);
        x.snake(false);
        x.propose();
        Check.due("15: while proposed", x.keep(), 0);
        x.freeze(0);
        Check.due("15: one is frozen", x.keep(), 1);
        x.begin(2);
        x.snake(true);
        x.propose();
        x.freeze(0);
        Check.due("15: both are frozen", x.keep(), 2);
        FrozenDistricts y = Check.made(z -> {
            z.setVotes(0, 1, 1);
            z.keep();
            z.setVotes(0, 2, 2);
            z.keep();
            z.setVotes(0, 3, 3);
            z.restore();
        });
        Check.due("15: in place of the one that was", y.cell(0, 0), 2);
        FrozenDistricts undone = Check.made(z -> {
            z.setVotes(0, 1, 1);
            z.keep();
            z.undo();
        });
        Check.due("15: undo does not touch it", undone.restore(), 0);
        Check.due("15: the votes of it", undone.cell(0, 0), 1);
    }

    private static void restore() {
        FrozenDistricts x = Check.made(y -> {
            y.setVotes(5, 3, 4);
            y.setTarget(1, 2);
            y.snake(false);
            y.propose();
            y.freeze(1);
            y.draft(0, 2);
            y.keep();
            y.begin(9);
            y.setVotes(5, 0, 0);
            y.setTarget(1, 0);
            y.clearText();
            y.type('8');
        });
        Check.due("16: how many are frozen then", x.restore(), 1);
        Check.due("16: the votes", x.cell(5, 1), 4);
        Check.due("16: the target", x.party(1, 3), 998);
        Check.due("16: n", x.count(0), 4);
        Check.due("16: the draft", x.cell(0, 2), 2);
        Check.due("16: the district", x.cell(6, 3), 0);
        Check.due("16: who froze it", x.district(0, 1), 1);
        Check.due("16: who cuts", x.count(5), 1);
        Check.due("16: not the text", x.count(11), 1);
        Check.due("16: not the history", x.count(10), 4);
        Check.due("16: the latest cut", x.adopt(), 3);
        Check.due("16: the snapshot stays", x.restore(), 1);
        Check.due("16: again as it was", x.cell(0, 2), 2);
        Check.due("16: an act", x.undo(), 3);
        Check.due("16: as before it", x.cell(0, 2), 0);
        x.setVotes(5, 9, 9);
        x.restore();
        Check.due("16: acts do not change the snapshot", x.cell(5, 0), 3);
        FrozenDistricts same = Check.made(y -> y.keep());
        Check.due("16: an act also if nothing differs", same.restore(), 0);
        Check.due("16: recorded", same.count(10), 1);
        FrozenDistricts proposed = Check.made(y -> {
            y.snake(true);
            y.propose();
            y.keep();
            y.freeze(0);
        });
        Check.due("16: a proposed cut", proposed.restore(), 0);
        Check.due("16: to be frozen", proposed.count(4), 1);
    }

    private static void restoreIsRefused() {
        Check.refused("16: no snapshot", x -> x.setTarget(0, 4), FrozenDistricts::restore, -5);
    }
}
