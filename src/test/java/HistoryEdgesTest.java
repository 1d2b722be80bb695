import java.util.LinkedHashMap;
import java.util.Map;

/** The edges of the document's sentences on history and errors and of its promises 14 to 16, each with a test of its own. */
public final class HistoryEdgesTest {
    public static void main(String[] args) {
        atMostFourStates();
        theOldestIsDropped();
        eachActIsRecorded();
        eachActIsUndone();
        eachActWhenTheHistoryIsFull();
        errorsRecordNothing();
        whatIsNoAct();
        undoReturnsHowManyAreLeft();
        undoOfAnEmptyHistory();
        undoIsNotRecorded();
        undoAndActsInTurn();
        noSnapshotAtFirst();
        keepReturnsHowManyAreFrozen();
        keepInPlaceOfTheOneThatWas();
        keepIsNoAct();
        restoreBringsEverythingBack();
        restoreReturnsHowManyAreFrozen();
        theSnapshotStays();
        restoreIsAlwaysAnAct();
        everythingButTheText();
        everythingButTheHistory();
        everythingButTheSnapshot();
        Check.end("HistoryEdgesTest");
    }

    /** What each act but freeze can be, if one of four districts is frozen and the rest is drafted. */
    private static Map<String, Check.Call> actsOfDrafting() {
        Map<String, Check.Call> acts = new LinkedHashMap<>();
        acts.put("setVotes", x -> x.setVotes(0, 9, 9));
        acts.put("begin", x -> x.begin(4));
        acts.put("setTarget", x -> x.setTarget(0, 9));
        acts.put("draft", x -> x.draft(35, 0));
        acts.put("draft to none", x -> x.draft(35, -1));
        acts.put("trade", x -> x.trade(0, 35));
        acts.put("snake", x -> x.snake(true));
        acts.put("adopt", FrozenDistricts::adopt);
        acts.put("propose", FrozenDistricts::propose);
        acts.put("readVotes", x -> x.readVotes(33));
        acts.put("restore", FrozenDistricts::restore);
        return acts;
    }

    /** One district is frozen, the rest is drafted; the latest acts: votes, a target, a snake, a trade. */
    private static Check.Setup richly() {
        return x -> {
            Check.write(x, "90,05,38");
            x.keep();
            Play.turn(x, 2);
            x.setVotes(1, 2, 3);
            x.setTarget(1, 3);
            x.snake(false);
            x.trade(6, 9);
        };
    }

    // "A history of at most 4 states is kept"
    private static void atMostFourStates() {
        FrozenDistricts x = new FrozenDistricts();
        Check.due("none at first", x.count(10), 0);
        for (int act = 1; act <= 12; act++) {
            x.setVotes(0, act % 10, 1);
            Check.due("after " + act + " acts", x.count(10), Math.min(act, 4));
        }
    }

    // "when one more is recorded, the oldest one is dropped; undo() removes and restores the latest one"
    private static void theOldestIsDropped() {
        for (int acts = 1; acts <= 9; acts++) {
            FrozenDistricts x = new FrozenDistricts();
            for (int act = 1; act <= acts; act++) {
                x.setVotes(35, act, 0);
            }
            int states = Math.min(acts, 4);
            for (int back = 1; back <= states; back++) {
                Check.due("undone " + back + " of " + acts, x.undo(), states - back);
                Check.due("the votes of then", x.cell(35, 0), acts - back);
            }
            Check.due("no more than that", x.undo(), -5);
            Check.due("the oldest is not come to", x.cell(35, 0), acts - states);
        }
    }

    // "Each call of a method that is described as an act, and returns no error and not NONE,
    // records the state that was before it."
    private static void eachActIsRecorded() {
        Check.Call[] acts = {
            x -> x.setVotes(0, 1, 0), x -> x.begin(2), x -> x.setTarget(0, 1), x -> x.draft(0, 0),
            x -> x.snake(false), x -> x.snake(true), x -> x.readVotes(0), FrozenDistricts::restore,
        };
        for (int act = 0; act < acts.length; act++) {
            FrozenDistricts x = Check.made(y -> {
                Check.write(y, "11");
                y.keep();
            });
            Check.isTrue("the act " + act, acts[act].on(x) > -2);
            Check.due("is recorded once, " + act, x.count(10), 1);
            Check.due("is undone, " + act, x.undo(), 0);
            Check.alike("the state before it, " + act, x, Check.made(y -> Check.write(y, "11")));
        }
        FrozenDistricts x = new FrozenDistricts();
        x.snake(false);
        Check.due("trade", x.trade(6, 9), 1);
        Check.due("is recorded", x.count(10), 2);
        Check.due("propose", x.propose(), 4);
        Check.due("is recorded, too", x.count(10), 3);
        Check.due("freeze", x.freeze(0), 1);
        Check.due("is recorded as well", x.count(10), 4);
        FrozenDistricts adopted = Check.made(y -> Play.turn(y, 0));
        Check.due("three acts", adopted.count(10), 3);
        Check.due("adopt", adopted.adopt(), 3);
        Check.due("is recorded after them", adopted.count(10), 4);
    }

    // "undo() removes and restores the latest one": each act is taken back wholly
    private static void eachActIsUndone() {
        for (Map.Entry<String, Check.Call> act : actsOfDrafting().entrySet()) {
            FrozenDistricts x = Check.made(richly());
            Check.isTrue(act.getKey() + " is done", act.getValue().on(x) > -2);
            Check.due(act.getKey() + " is undone", x.undo(), 3);
            Check.same(act.getKey() + " is undone wholly", y -> {
                richly().on(y);
                act.getValue().on(y);
                y.undo();
            }, y -> {
                richly().on(y);
                y.begin(9);
                y.undo();
            });
        }
        for (int part = 0; part < 3; part++) {
            Check.Setup before = x -> {
                Play.turn(x, 2);
                Play.propose(x);
            };
            FrozenDistricts x = Check.made(before);
            Check.due("freeze " + part, x.freeze(part), 2);
            Check.due("freeze is undone", x.undo(), 3);
            Check.alike("freeze " + part + " is undone wholly", x, Check.made(z -> {
                before.on(z);
                z.setTarget(0, 1);
                z.undo();
            }));
        }
        for (int n : Play.NUMBERS) {
            FrozenDistricts x = Check.made(y -> {
                Play.turns(y, n, n - 2);
                Play.propose(y);
            });
            FrozenDistricts y = Check.made(z -> {
                Play.turns(z, n, n - 2);
                Play.propose(z);
                z.setTarget(0, 1);
                z.undo();
            });
            x.freeze(1);
            x.undo();
            Check.alike("the last freeze of " + n + " is undone wholly", x, y);
        }
    }

    // "at most 4 states ...; when one more is recorded": whatever the act is
    private static void eachActWhenTheHistoryIsFull() {
        for (Map.Entry<String, Check.Call> act : actsOfDrafting().entrySet()) {
            FrozenDistricts x = Check.made(richly());
            Check.due("four before " + act.getKey(), x.count(10), 4);
            act.getValue().on(x);
            Check.due("four behind " + act.getKey(), x.count(10), 4);
            Check.due("undone: " + act.getKey(), x.undo(), 3);
            Check.due("undone: the trade", x.undo(), 2);
            Check.due("the trade's part", x.cell(9, 2), 0);
            Check.due("undone: the snake", x.undo(), 1);
            Check.due("an empty draft", x.count(7), 27);
            Check.due("undone: the target", x.undo(), 0);
            Check.due("no target", x.party(1, 3), 1000);
            Check.due("the votes' state was dropped", x.undo(), -5);
            Check.due("so that they stay", x.cell(1, 1), 3);
        }
    }

    // "A call that returns an error or NONE changes nothing.", not even a full history
    private static void errorsRecordNothing() {
        Map<String, Check.Call> calls = new LinkedHashMap<>();
        calls.put("setVotes, UNKNOWN", x -> x.setVotes(36, 0, 0));
        calls.put("setVotes, BAD_VALUE", x -> x.setVotes(0, 10, 0));
        calls.put("setVotes, NONE", x -> x.setVotes(1, 2, 3));
        calls.put("begin, BAD_VALUE", x -> x.begin(5));
        calls.put("setTarget, UNKNOWN", x -> x.setTarget(2, 0));
        calls.put("setTarget, BAD_VALUE", x -> x.setTarget(0, 10));
        calls.put("setTarget, NONE", x -> x.setTarget(1, 3));
        calls.put("draft, UNKNOWN", x -> x.draft(36, 0));
        calls.put("draft, NOT_POSSIBLE", x -> x.draft(18, 0));
        calls.put("draft, BAD_VALUE", x -> x.draft(0, 3));
        calls.put("draft, NONE", x -> x.draft(0, 0));
        calls.put("trade, UNKNOWN", x -> x.trade(0, 36));
        calls.put("trade, NOT_POSSIBLE", x -> x.trade(0, 18));
        calls.put("trade, NONE", x -> x.trade(0, 1));
        calls.put("freeze, NOT_POSSIBLE", x -> x.freeze(0));
        calls.put("advice, NOT_POSSIBLE", FrozenDistricts::advice);
        calls.put("readVotes, UNKNOWN", x -> x.readVotes(36));
        calls.put("readVotes, BAD_VALUE", x -> x.readVotes(34));
        calls.put("cell, UNKNOWN", x -> x.cell(36, 0));
        calls.put("cell, BAD_VALUE", x -> x.cell(0, 5));
        calls.put("cell, NONE", x -> x.cell(0, 3));
        calls.put("part, UNKNOWN", x -> x.part(3, 0));
        calls.put("part, BAD_VALUE", x -> x.part(0, 6));
        calls.put("district, UNKNOWN", x -> x.district(1, 0));
        calls.put("district, BAD_VALUE", x -> x.district(0, 8));
        calls.put("why, BAD_VALUE", x -> x.why(2));
        calls.put("why, NONE", x -> x.why(1));
        calls.put("party, UNKNOWN", x -> x.party(2, 0));
        calls.put("party, BAD_VALUE", x -> x.party(0, 5));
        calls.put("count, BAD_VALUE", x -> x.count(12));
        int[] wants = {
            -1, -2, -5, -2, -1, -2, -5, -1, -4, -2, -5, -1, -4, -5, -4, -4, -1, -2,
            -1, -2, -5, -1, -2, -1, -2, -2, -5, -1, -2, -2,
        };
        int each = 0;
        for (Map.Entry<String, Check.Call> call : calls.entrySet()) {
            Check.refused(call.getKey(), richly(), call.getValue(), wants[each]);
            each++;
        }
        Check.refused("propose, -11", x -> {
            richly().on(x);
            x.draft(0, -1);
        }, FrozenDistricts::propose, -11);
        Check.refused("propose, -12", x -> {
            richly().on(x);
            x.draft(0, 1);
        }, FrozenDistricts::propose, -12);
        Check.refused("propose, -13", x -> {
            richly().on(x);
            x.trade(0, 35);
        }, FrozenDistricts::propose, -13);
        Check.refused("adopt, NONE", x -> {
            richly().on(x);
            x.adopt();
        }, FrozenDistricts::adopt, -5);
        Check.refused("snake, NONE", x -> {
            richly().on(x);
            x.snake(true);
        }, x -> x.snake(true), -5);
        Check.refused("readVotes, a fault", x -> {
            richly().on(x);
            x.type(',');
        }, x -> x.readVotes(0), -109);
    }

    // Only what is "described as an act" is recorded
    private static void whatIsNoAct() {
        Check.Call[] calls = {
            x -> x.type('1'), FrozenDistricts::clearText, FrozenDistricts::keep, x -> x.cell(0, 0),
            x -> x.part(0, 0), x -> x.district(0, 0), x -> x.why(0), x -> x.party(0, 0),
            FrozenDistricts::fairness, x -> x.count(0),
        };
        for (int call = 0; call < calls.length; call++) {
            FrozenDistricts x = Check.made(y -> {
                Play.turn(y, 0);
                Check.undoAll(y);
                y.setTarget(0, 1);
            });
            calls[call].on(x);
            Check.due("no act: " + call, x.count(10), 1);
            Check.due("what is undone is the act before, " + call, x.undo(), 0);
            Check.due("no target, " + call, x.party(0, 3), 1000);
        }
        FrozenDistricts advised = Check.made(Play::propose);
        advised.advice();
        Check.due("no act: advice", advised.count(10), 2);
    }

    // "Returns the number of states that are left"
    private static void undoReturnsHowManyAreLeft() {
        for (int acts = 1; acts <= 6; acts++) {
            FrozenDistricts x = new FrozenDistricts();
            for (int act = 1; act <= acts; act++) {
                x.setTarget(0, act);
            }
            for (int left = Math.min(acts, 4) - 1; left >= 0; left--) {
                Check.due("left", x.undo(), left);
                Check.due("counted", x.count(10), left);
            }
        }
    }

    // "NONE if the history is empty."
    private static void undoOfAnEmptyHistory() {
        Check.refused("at first", x -> { }, FrozenDistricts::undo, -5);
        Check.refused("with a text and a snapshot", x -> {
            x.type('1');
            x.keep();
        }, FrozenDistricts::undo, -5);
        Check.refused("after errors", x -> {
            x.setVotes(0, 10, 0);
            x.propose();
            x.restore();
            x.setTarget(0, 0);
        }, FrozenDistricts::undo, -5);
        Check.refused("undone wholly", x -> {
            for (int act = 0; act < 5; act++) {
                Play.turns(x, 9, 1);
            }
            Check.undoAll(x);
        }, FrozenDistricts::undo, -5);
    }

    // undo() is not described as an act
    private static void undoIsNotRecorded() {
        FrozenDistricts x = Check.made(y -> {
            y.setTarget(0, 1);
            y.setTarget(0, 2);
            y.setTarget(0, 3);
        });
        Check.due("the third", x.undo() + x.party(0, 3), 2 + 998);
        Check.due("the second", x.undo() + x.party(0, 3), 1 + 999);
        Check.due("the first", x.undo() + x.party(0, 3), 1000);
        Check.due("nothing is left", x.undo(), -5);
    }

    private static void undoAndActsInTurn() {
        FrozenDistricts x = new FrozenDistricts();
        for (int act = 1; act <= 6; act++) {
            x.setTarget(0, act);
        }
        x.undo();
        x.undo();
        x.setTarget(0, 9);
        Check.due("three states then", x.count(10), 3);
        Check.due("what was undone is gone", x.undo() + x.party(0, 3), 2 + 996);
        Check.due("what was before it stays", x.undo() + x.party(0, 3), 1 + 997);
        Check.due("the oldest", x.undo() + x.party(0, 3), 998);
        Check.due("no more", x.undo(), -5);
    }

    // "There is one snapshot, empty at first."
    private static void noSnapshotAtFirst() {
        Check.refused("at first", x -> { }, FrozenDistricts::restore, -5);
        Check.refused("whatever is done", richlyWithoutKeep(), FrozenDistricts::restore, -5);
    }

    private static Check.Setup richlyWithoutKeep() {
        return x -> {
            Check.write(x, "90,05,38");
            Play.turn(x, 2);
            x.setVotes(1, 2, 3);
            x.undo();
            x.begin(3);
        };
    }

    // "Returns how many districts are frozen."
    private static void keepReturnsHowManyAreFrozen() {
        for (int n : Play.NUMBERS) {
            for (int turns = 0; turns < n; turns++) {
                int made = turns;
                FrozenDistricts x = Check.made(y -> Play.turns(y, n, made));
                Check.due("kept after " + turns + " of " + n, x.keep(), turns == n - 1 ? n : turns);
            }
        }
        Check.due("while a cut is proposed", Check.made(Play::propose).keep(), 0);
    }

    // "Takes a snapshot of the state, in place of the one that was."
    private static void keepInPlaceOfTheOneThatWas() {
        FrozenDistricts x = Check.made(y -> {
            Play.toTheEnd(y, 2);
            y.setVotes(0, 8, 8);
            y.keep();
            y.begin(9);
            y.setVotes(0, 1, 0);
            y.keep();
            y.begin(3);
            y.setVotes(0, 2, 0);
        });
        Check.due("restored", x.restore(), 0);
        Check.due("the later one", x.count(0), 9);
        Check.due("its votes", x.cell(0, 0), 1);
        Check.due("nothing of the one that was", x.cell(0, 1) + x.count(2), 0);
    }

    private static void keepIsNoAct() {
        FrozenDistricts x = Check.made(y -> y.setTarget(0, 5));
        for (int time = 0; time < 6; time++) {
            x.keep();
        }
        Check.due("one state", x.count(10), 1);
        Check.due("undone", x.undo(), 0);
        Check.due("no target", x.party(0, 3), 1000);
    }

    // "Restores the state of the snapshot": at each stage, from each stage
    private static void restoreBringsEverythingBack() {
        for (Map.Entry<String, Check.Setup> kept : Play.stages().entrySet()) {
            for (Map.Entry<String, Check.Setup> later : Play.stages().entrySet()) {
                String what = kept.getKey() + ", restored when " + later.getKey();
                Check.Setup setup = x -> {
                    x.setVotes(0, 3, 4);
                    x.setTarget(0, 2);
                    kept.getValue().on(x);
                };
                FrozenDistricts x = Check.made(y -> {
                    setup.on(y);
                    y.keep();
                    y.begin(2);
                    y.setVotes(0, 9, 9);
                    y.setTarget(0, 9);
                    y.setTarget(1, 9);
                    later.getValue().on(y);
                    y.begin(9);
                    y.begin(6);
                    y.begin(4);
                    later.getValue().on(y);
                    y.setTarget(1, 8);
                });
                FrozenDistricts y = Check.made(z -> {
                    setup.on(z);
                    for (int act = 0; act < 5; act++) {
                        z.keep();
                        z.restore();
                    }
                });
                Check.due(what, x.restore(), y.count(2));
                Check.alike(what, x, y);
                Check.due(what + ", what is left of the latest cut", x.adopt(), y.adopt());
            }
        }
    }

    // "Returns how many districts are frozen then"
    private static void restoreReturnsHowManyAreFrozen() {
        for (int n : Play.NUMBERS) {
            for (int turns = 0; turns < n; turns++) {
                int made = turns;
                FrozenDistricts x = Check.made(y -> {
                    Play.turns(y, n, made);
                    y.keep();
                    Play.turns(y, 3, 1);
                });
                Check.due("restored, " + turns + " of " + n, x.restore(), turns == n - 1 ? n : turns);
            }
        }
    }

    // "the snapshot, which stays"
    private static void theSnapshotStays() {
        FrozenDistricts x = Check.made(y -> {
            y.setVotes(0, 1, 2);
            Play.turn(y, 0);
            y.keep();
        });
        for (int time = 0; time < 4; time++) {
            x.setVotes(0, 9, time);
            x.adopt();
            x.propose();
            x.freeze(0);
            x.setTarget(0, 4);
            Check.due("restored once more", x.restore(), 1);
            Check.due("its votes", 10 * x.cell(0, 0) + x.cell(0, 1), 12);
            Check.due("its draft", x.count(7), 27);
            Check.due("its target", x.party(0, 3), 1000 + x.party(0, 0));
        }
    }

    // "This is an act.", and the promise names NONE only if there is no snapshot
    private static void restoreIsAlwaysAnAct() {
        FrozenDistricts x = Check.made(FrozenDistricts::keep);
        Check.due("so already", x.restore(), 0);
        Check.due("recorded", x.count(10), 1);
        Check.due("so already again", x.restore(), 0);
        Check.due("recorded, too", x.count(10), 2);
        FrozenDistricts y = Check.made(z -> {
            z.keep();
            z.setVotes(0, 1, 1);
            z.restore();
        });
        Check.due("undone", y.undo(), 1);
        Check.due("as it was before it", y.cell(0, 0), 1);
    }

    // "A state is everything but the text"
    private static void everythingButTheText() {
        FrozenDistricts x = Check.made(y -> {
            Check.write(y, "12");
            y.keep();
            y.setTarget(0, 1);
            y.clearText();
            Check.write(y, "345");
        });
        x.undo();
        Check.due("not undone", x.count(11), 3);
        x.restore();
        Check.due("not restored", x.count(11), 3);
        Check.due("its characters stay", x.readVotes(0), -102);
        x.begin(9);
        Check.due("not begun anew", x.count(11), 3);
    }

    // "but ... the history"
    private static void everythingButTheHistory() {
        FrozenDistricts x = Check.made(y -> {
            y.keep();
            y.setTarget(0, 1);
            y.setTarget(0, 2);
        });
        x.restore();
        Check.due("restore adds to the history", x.count(10), 3);
        x.begin(9);
        Check.due("begin adds to it", x.count(10), 4);
        Check.undoAll(x);
        Check.due("both are undone as the others", x.party(0, 3), 1000);
    }

    // "and the snapshot"
    private static void everythingButTheSnapshot() {
        FrozenDistricts x = Check.made(y -> {
            y.setTarget(0, 1);
            y.keep();
            y.undo();
        });
        Check.due("undo leaves the snapshot", x.restore(), 0);
        Check.due("its target", x.party(0, 3), 999);
        FrozenDistricts y = Check.made(z -> {
            z.keep();
            z.setTarget(0, 1);
            z.keep();
            z.undo();
        });
        Check.due("undo does not bring back the one that was", y.restore(), 0);
        Check.due("the later one's target", y.party(0, 3), 999);
        FrozenDistricts begun = Check.made(z -> {
            Play.turn(z, 0);
            z.keep();
            z.begin(2);
        });
        Check.due("begin leaves the snapshot", begun.restore(), 1);
    }
}
