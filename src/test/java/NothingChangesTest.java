import java.util.ArrayList;
import java.util.LinkedHashMap;
import java.util.List;
import java.util.Map;

/** "A call that returns an error or NONE changes nothing.", nor does one that only tells: each method, at each stage. */
public final class NothingChangesTest {
    private static final int[] CELLS = {-1, 0, 1, 6, 18, 35, 36};

    public static void main(String[] args) {
        for (Map.Entry<String, Check.Setup> stage : Play.stages().entrySet()) {
            Check.Setup setup = Play.rich(stage.getValue());
            errors(stage.getKey(), setup);
            telling(stage.getKey(), setup);
            theFullText(stage.getKey(), setup);
            noHistory(stage.getKey(), setup);
            noSnapshot(stage.getKey(), stage.getValue());
            onlyTheText(stage.getKey(), setup);
            onlyTheSnapshot(stage.getKey(), setup);
        }
        Check.end("NothingChangesTest");
    }

    /** Calls of each method that is an act, right ones and wrong ones. */
    private static Map<String, List<Check.Call>> acts() {
        Map<String, List<Check.Call>> acts = new LinkedHashMap<>();
        acts.put("setVotes", new ArrayList<>());
        acts.put("setTarget", new ArrayList<>());
        acts.put("trade", new ArrayList<>());
        acts.put("begin", new ArrayList<>());
        acts.put("freeze", new ArrayList<>());
        acts.put("snake", List.of(x -> x.snake(false), x -> x.snake(true)));
        acts.put("adopt", List.of(FrozenDistricts::adopt));
        acts.put("propose", List.of(FrozenDistricts::propose));
        acts.put("readVotes", new ArrayList<>());
        for (int cell : CELLS) {
            for (int other : CELLS) {
                acts.get("trade").add(x -> x.trade(cell, other));
            }
            for (int votes : new int[] {-1, 0, 2, 10}) {
                acts.get("setVotes").add(x -> x.setVotes(cell, votes, 2));
                acts.get("setVotes").add(x -> x.setVotes(cell, 2, votes));
            }
            acts.get("readVotes").add(x -> x.readVotes(cell));
        }
        for (int number = -2; number <= 10; number++) {
            int each = number;
            acts.get("begin").add(x -> x.begin(each));
            acts.get("freeze").add(x -> x.freeze(each));
            acts.get("setTarget").add(x -> x.setTarget(0, each));
            acts.get("setTarget").add(x -> x.setTarget(1, each));
            acts.get("setTarget").add(x -> x.setTarget(each, 3));
        }
        return acts;
    }

    private static void errors(String stage, Check.Setup setup) {
        for (Map.Entry<String, List<Check.Call>> act : acts().entrySet()) {
            List<Check.Call> refused = new ArrayList<>();
            for (Check.Call call : act.getValue()) {
                // The acts of this list answer no number below 0 but errors and NONE.
                if (call.on(Check.made(setup)) < 0) {
                    refused.add(call);
                }
            }
            leaves(stage + ", refused: " + act.getKey(), setup, refused);
        }
        List<Check.Call> drafts = new ArrayList<>();
        for (int cell : CELLS) {
            for (int part = -2; part <= 9; part++) {
                int each = part;
                // Here -1 is an error only if there is no such cell.
                if (cell < 0 || cell > 35 || Check.made(setup).draft(cell, part) < -1) {
                    drafts.add(x -> x.draft(cell, each));
                }
            }
        }
        leaves(stage + ", refused: draft", setup, drafts);
    }

    /** An object on which all of these were called is like one on which none was. */
    private static void leaves(String what, Check.Setup setup, List<Check.Call> calls) {
        Check.same(what, x -> {
            setup.on(x);
            for (Check.Call call : calls) {
                call.on(x);
            }
        }, setup);
    }

    private static void telling(String stage, Check.Setup setup) {
        List<Check.Call> cells = new ArrayList<>();
        List<Check.Call> parts = new ArrayList<>();
        List<Check.Call> districts = new ArrayList<>();
        List<Check.Call> others = new ArrayList<>();
        for (int what = -1; what <= 12; what++) {
            int each = what;
            for (int number = -1; number <= 4; number++) {
                int one = number;
                if (what <= 6) {
                    parts.add(x -> x.part(one, each));
                }
                if (what <= 8) {
                    districts.add(x -> x.district(one, each));
                }
                if (number <= 2 && what <= 5) {
                    others.add(x -> x.party(one, each));
                }
            }
            for (int cell : CELLS) {
                if (what <= 5) {
                    cells.add(x -> x.cell(cell, each));
                }
            }
            others.add(x -> x.why(each));
            others.add(x -> x.count(each));
        }
        others.add(FrozenDistricts::advice);
        others.add(FrozenDistricts::fairness);
        leaves(stage + ", told: cells", setup, cells);
        leaves(stage + ", told: parts", setup, parts);
        leaves(stage + ", told: districts", setup, districts);
        leaves(stage + ", told: the others", setup, others);
    }

    private static void theFullText(String stage, Check.Setup setup) {
        Check.Setup full = x -> {
            setup.on(x);
            for (int length = 5; length < 60; length++) {
                x.type(length % 3 == 2 ? ',' : '6');
            }
        };
        leaves(stage + ", refused: type", full, List.of(x -> x.type('1'), x -> x.type(',')));
    }

    private static void noHistory(String stage, Check.Setup setup) {
        leaves(stage + ", refused: undo", x -> {
            setup.on(x);
            for (int state = 0; state < 4; state++) {
                x.undo();
            }
        }, List.of(FrozenDistricts::undo));
    }

    private static void noSnapshot(String stage, Check.Setup setup) {
        leaves(stage + ", refused: restore", x -> {
            x.setVotes(7, 2, 2);
            Check.write(x, "12,34");
            setup.on(x);
        }, List.of(FrozenDistricts::restore));
    }

    // What is typed and cleared away leaves all but the text as it was
    private static void onlyTheText(String stage, Check.Setup setup) {
        leaves(stage + ", typed, cleared and typed again", setup, List.of(
            x -> x.type('9'), FrozenDistricts::clearText, x -> x.type('1'), x -> x.type('2'),
            x -> x.type(','), x -> x.type('3'), x -> x.type('4')));
    }

    // keep() leaves all but the snapshot as it was
    private static void onlyTheSnapshot(String stage, Check.Setup setup) {
        FrozenDistricts kept = Check.made(setup);
        kept.keep();
        Check.alike(stage + ", kept", kept, Check.made(setup));
        FrozenDistricts undone = Check.made(setup);
        undone.keep();
        FrozenDistricts other = Check.made(setup);
        Check.due(stage + ", kept, the history", Check.undoAll(undone), Check.undoAll(other));
        Check.alike(stage + ", kept, the oldest state", undone, other);
        FrozenDistricts adopted = Check.made(setup);
        adopted.keep();
        Check.due(stage + ", kept, what is left of the latest cut", adopted.adopt(), Check.made(setup).adopt());
    }
}
