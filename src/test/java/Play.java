import java.util.LinkedHashMap;
import java.util.Map;

/** Ways to bring an object into the states that several tests are about. */
final class Play {
    /** The numbers of districts that there can be. */
    static final int[] NUMBERS = {2, 3, 4, 6, 9};

    private Play() {
    }

    /** Numbers that are not from 0 to bound - 1: those next to them, and some far away. */
    static int[] outside(int bound) {
        return new int[] {-1, bound, -2, bound + 1, bound + 1000, Integer.MIN_VALUE, Integer.MAX_VALUE};
    }

    /** Drafts the snake by rows, or what is left of the latest cut. */
    static void draftCut(FrozenDistricts x) {
        if (x.adopt() == FrozenDistricts.NOT_POSSIBLE) {
            x.snake(false);
        }
    }

    static void propose(FrozenDistricts x) {
        draftCut(x);
        x.propose();
    }

    static void turn(FrozenDistricts x, int part) {
        propose(x);
        x.freeze(part);
    }

    /** So many of n districts are frozen by turns, the part 0 each time. */
    static void turns(FrozenDistricts x, int n, int turns) {
        x.begin(n);
        for (int turn = 0; turn < turns; turn++) {
            turn(x, 0);
        }
    }

    static void toTheEnd(FrozenDistricts x, int n) {
        turns(x, n, n - 1);
    }

    /** A state of each kind, by what it is. */
    static Map<String, Check.Setup> stages() {
        Map<String, Check.Setup> stages = new LinkedHashMap<>();
        stages.put("a new object", x -> { });
        stages.put("the player 0 drafts", x -> x.snake(false));
        stages.put("the player 1 is to freeze", Play::propose);
        stages.put("the player 1 is to draft", x -> turn(x, 1));
        stages.put("the player 0 is to freeze", x -> {
            turn(x, 1);
            propose(x);
        });
        stages.put("two are frozen", x -> turns(x, 4, 2));
        stages.put("all is done", x -> toTheEnd(x, 4));
        return stages;
    }

    /**
     * The same stage with votes, targets, a text, a snapshot of another state, and a full history,
     * so that it can be seen whichever of them is changed.
     */
    static Check.Setup rich(Check.Setup stage) {
        return x -> {
            x.setVotes(0, 3, 1);
            x.setVotes(7, 0, 4);
            x.setVotes(35, 6, 2);
            Check.write(x, "12,34");
            x.begin(9);
            x.snake(true);
            x.keep();
            x.begin(4);
            stage.on(x);
            x.setTarget(0, 2);
            x.setVotes(35, 5, 2);
            x.setVotes(1, 2, 2);
            x.setTarget(1, 7);
        };
    }
}
