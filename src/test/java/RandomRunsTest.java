/** Runs of 512 calls on new objects, each answer compared with that of the Model. */
public final class RandomRunsTest {
    private static final int RUNS = 1500;
    private static final int CALLS = 512;

    private long seed;
    private FrozenDistricts x;
    private Model model;
    private String call;
    private int got;
    private int want;

    public static void main(String[] args) {
        RandomRunsTest test = new RandomRunsTest();
        for (int run = 1; run <= RUNS; run++) {
            test.run(run);
        }
        Check.end("RandomRunsTest");
    }

    private void run(int number) {
        seed = number;
        x = new FrozenDistricts();
        model = new Model();
        // Some runs have few votes (so that draws are frequent), some play on, some ask much.
        boolean plays = number % 3 != 0;
        for (int each = 1; each <= CALLS; each++) {
            boolean tells = below(3) == 0;
            if (tells) {
                tell();
            } else if (plays && below(2) == 0) {
                playOn();
            } else {
                act(number % 2 == 0 ? 10 : 3);
            }
            Check.due("run " + number + ", call " + each + ": " + call, got, want);
            if (got != want) {
                return;
            }
        }
    }

    /** A number from 0 to bound - 1, the same ones in each run of the test. */
    private int below(int bound) {
        seed = seed * 6364136223846793005L + 1442695040888963407L;
        return (int) ((seed >>> 33) % bound);
    }

    /** Mostly a number from 0 to bound - 1, at times one that is out of range. */
    private int about(int bound) {
        int kind = below(40);
        if (kind == 0) {
            return -1 - below(3);
        }
        if (kind == 1) {
            return bound + below(2);
        }
        if (kind == 2) {
            return below(2) == 0 ? Integer.MIN_VALUE : Integer.MAX_VALUE;
        }
        return below(bound);
    }

    private void answered(String made, int byClass, int byModel) {
        call = made;
        got = byClass;
        want = byModel;
    }

    private void playOn() {
        int kind = below(8);
        if (kind == 0) {
            boolean byColumns = below(2) == 0;
            answered("snake(" + byColumns + ")", x.snake(byColumns), model.snake(byColumns));
        } else if (kind < 3) {
            answered("adopt()", x.adopt(), model.adopt());
        } else if (kind < 6) {
            answered("propose()", x.propose(), model.propose());
        } else {
            int part = below(3);
            answered("freeze(" + part + ")", x.freeze(part), model.freeze(part));
        }
    }

    private void act(int votes) {
        switch (below(20)) {
            case 0: case 1: case 2: case 3: {
                int cell = about(36);
                int first = about(votes);
                int second = about(votes);
                answered("setVotes(" + cell + ", " + first + ", " + second + ")",
                    x.setVotes(cell, first, second), model.setVotes(cell, first, second));
                break;
            }
            case 4: {
                int districts = below(4) == 0 ? about(11) : new int[] {2, 3, 4, 6, 9}[below(5)];
                if (below(3) == 0) {
                    answered("begin(" + districts + ")", x.begin(districts), model.begin(districts));
                } else {
                    answered("keep()", x.keep(), model.keep());
                }
                break;
            }
            case 5: {
                int player = about(2);
                int seats = about(10);
                answered("setTarget(" + player + ", " + seats + ")",
                    x.setTarget(player, seats), model.setTarget(player, seats));
                break;
            }
            case 6: case 7: case 8: {
                int cell = about(36);
                int part = about(9) - 1;
                answered("draft(" + cell + ", " + part + ")", x.draft(cell, part), model.draft(cell, part));
                break;
            }
            case 9: case 10: {
                int cell = about(36);
                int other = below(2) == 0 ? about(36) : cell + 1 + 5 * below(2);
                answered("trade(" + cell + ", " + other + ")", x.trade(cell, other), model.trade(cell, other));
                break;
            }
            case 11: {
                int part = about(9);
                answered("freeze(" + part + ")", x.freeze(part), model.freeze(part));
                break;
            }
            case 12: case 13: case 14: case 15: {
                typeOne();
                break;
            }
            case 16: {
                int cell = about(36);
                answered("readVotes(" + cell + ")", x.readVotes(cell), model.readVotes(cell));
                break;
            }
            case 17: {
                if (below(4) == 0) {
                    answered("clearText()", x.clearText(), model.clearText());
                } else {
                    answered("restore()", x.restore(), model.restore());
                }
                break;
            }
            default:
                answered("undo()", x.undo(), model.undo());
        }
    }

    /** Mostly a character that is allowed at its place. */
    private void typeOne() {
        char sign = model.count(11) % 3 == 2 ? ',' : (char) ('0' + below(10));
        if (below(30) == 0) {
            sign = (char) below(300);
        }
        answered("type((char) " + (int) sign + ")", x.type(sign), model.type(sign));
    }

    private void tell() {
        switch (below(8)) {
            case 0: case 1: {
                int cell = about(36);
                int what = about(5);
                answered("cell(" + cell + ", " + what + ")", x.cell(cell, what), model.cell(cell, what));
                break;
            }
            case 2: {
                int part = about(5);
                int what = about(6);
                answered("part(" + part + ", " + what + ")", x.part(part, what), model.part(part, what));
                break;
            }
            case 3: {
                int district = about(5);
                int what = about(8);
                answered("district(" + district + ", " + what + ")",
                    x.district(district, what), model.district(district, what));
                break;
            }
            case 4: {
                int what = about(2);
                answered("why(" + what + ")", x.why(what), model.why(what));
                break;
            }
            case 5: {
                int party = about(2);
                int what = about(5);
                answered("party(" + party + ", " + what + ")", x.party(party, what), model.party(party, what));
                break;
            }
            case 6: {
                if (below(2) == 0) {
                    answered("fairness()", x.fairness(), model.fairness());
                } else {
                    answered("advice()", x.advice(), model.advice());
                }
                break;
            }
            default: {
                int what = about(12);
                answered("count(" + what + ")", x.count(what), model.count(what));
            }
        }
    }
}
