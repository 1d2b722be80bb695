import java.util.ArrayList;
import java.util.List;

/** What the project's tests share: answers are compared, and each one that is not due is printed. */
final class Check {
    /** Calls that bring a new object into the state that a test is about. */
    interface Setup {
        void on(FrozenDistricts x);
    }

    interface Call {
        int on(FrozenDistricts x);
    }

    private interface Telling {
        Call of(int number, int what);
    }

    private record Told(String name, Call call) {
    }

    private static final List<Told> TOLD = allThatIsTold();
    private static int passed = 0;
    private static int failed = 0;

    private Check() {
    }

    static void due(String what, int got, int want) {
        if (got == want) {
            passed++;
            return;
        }
        failed++;
        System.out.println("FAILED " + what + ": answered " + got + ", due is " + want);
    }

    static void isTrue(String what, boolean holds) {
        due(what, holds ? 1 : 0, 1);
    }

    static FrozenDistricts made(Setup setup) {
        FrozenDistricts x = new FrozenDistricts();
        setup.on(x);
        return x;
    }

    /** The call answers an error or NONE, and an object that was called so is like one that was not. */
    static void refused(String what, Setup setup, Call call, int want) {
        due(what, call.on(made(setup)), want);
        same(what + " changes nothing", x -> {
            setup.on(x);
            call.on(x);
        }, setup);
    }

    /** Two ways to make an object come to the same: its state, its history, its text and its snapshot. */
    static void same(String what, Setup one, Setup other) {
        probed(what + ", the state", one, other, x -> 0);
        probed(what + ", the latest state", one, other, FrozenDistricts::undo);
        probed(what + ", the oldest state", one, other, Check::undoAll);
        probed(what + ", the text", one, other, x -> x.readVotes(0));
        probed(what + ", the text and one more", one, other, x -> x.type('1') + 1000 * x.readVotes(0));
        probed(what + ", the snapshot", one, other, FrozenDistricts::restore);
        probed(what + ", the rest", one, other, FrozenDistricts::adopt);
    }

    private static void probed(String what, Setup one, Setup other, Call probe) {
        for (int way = 0; way < 2; way++) {
            FrozenDistricts x = made(one);
            FrozenDistricts y = made(other);
            due(what, probe.on(x), probe.on(y));
            // A call that wrongly changes something does so in both, but in one of two orders behind its telling.
            alike(what, look(x, way == 1), look(y, way == 1), way == 1);
        }
    }

    /** All that is told of both is the same. */
    static void alike(String what, FrozenDistricts x, FrozenDistricts y) {
        alike(what, look(x, false), look(y, false), false);
    }

    private static void alike(String what, List<Integer> told, List<Integer> want, boolean backwards) {
        for (int each = 0; each < TOLD.size(); each++) {
            if (!told.get(each).equals(want.get(each))) {
                String name = TOLD.get(backwards ? TOLD.size() - 1 - each : each).name;
                due(what + ", " + name, told.get(each), want.get(each));
                return;
            }
        }
        passed++;
    }

    /** Undoes all there is; answers how many acts that were. */
    static int undoAll(FrozenDistricts x) {
        int undone = 0;
        while (undone < 9 && x.undo() != FrozenDistricts.NONE) {
            undone++;
        }
        return undone;
    }

    /** The answers of all calls that tell, in their order or the other way round. */
    static List<Integer> look(FrozenDistricts x, boolean backwards) {
        List<Integer> told = new ArrayList<>();
        for (int each = 0; each < TOLD.size(); each++) {
            told.add(TOLD.get(backwards ? TOLD.size() - 1 - each : each).call.on(x));
        }
        return told;
    }

    /** All 332 calls that tell. */
    private static List<Told> allThatIsTold() {
        List<Told> all = new ArrayList<>();
        for (int what = 0; what < 12; what++) {
            int each = what;
            all.add(new Told("count(" + what + ")", x -> x.count(each)));
        }
        // The targets come near to one end, and the votes near to the other one.
        tell(all, "party", 2, new int[] {0, 1, 2, 3, 4}, (number, what) -> x -> x.party(number, what));
        tell(all, "part", 9, new int[] {0, 1, 2, 3, 4, 5}, (number, what) -> x -> x.part(number, what));
        tell(all, "district", 9, new int[] {0, 1, 2, 3, 4, 5, 6, 7}, (number, what) -> x -> x.district(number, what));
        all.add(new Told("why(0)", x -> x.why(0)));
        all.add(new Told("why(1)", x -> x.why(1)));
        all.add(new Told("advice()", FrozenDistricts::advice));
        all.add(new Told("fairness()", FrozenDistricts::fairness));
        tell(all, "cell", 36, new int[] {4, 3, 2, 1, 0}, (number, what) -> x -> x.cell(number, what));
        return all;
    }

    private static void tell(List<Told> all, String name, int numbers, int[] whats, Telling telling) {
        for (int what : whats) {
            for (int number = 0; number < numbers; number++) {
                all.add(new Told(name + "(" + number + ", " + what + ")", telling.of(number, what)));
            }
        }
    }

    static void write(FrozenDistricts x, String text) {
        for (int index = 0; index < text.length(); index++) {
            x.type(text.charAt(index));
        }
    }

    /** Drafts the whole map: a digit for each cell's part, "." for none; six rows of six. */
    static void draftAll(FrozenDistricts x, String map) {
        for (int cell = 0; cell < 36; cell++) {
            char sign = map.charAt(cell);
            x.draft(cell, sign == '.' ? -1 : sign - '0');
        }
    }

    static void end(String name) {
        System.out.println(name + ": " + passed + " answers as due, " + failed + " not");
        if (failed != 0) {
            System.exit(1);
        }
    }
}
