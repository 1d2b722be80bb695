import java.util.ArrayList;
import java.util.List;

/** What the project's tests share: answers are compared, and each one that is not due is printed. */
final class Check {
    /** Calls that bring a new object into the state that a test is about. */
    interface Setup {
        void on(FrozenDistricts x);
    }

    interface Call {
        int on(FrozenDistricts x);
    }

    private static int passed = 0;
    private static int failed = 0;

    private Check() {
    }

    static void due(String what, int got, int want) {
        if (got == want) {
            passed++;
            return;
        }
        failed++;
        System.out.println("FAILED " + what + ": answered " + got + ", due is " + want);
    }

    static void isTrue(String what, boolean holds) {
        due(what, holds ? 1 : 0, 1);
    }

    static FrozenDistricts made(Setup setup) {
        FrozenDistricts x = new FrozenDistricts();
        setup.on(x);
        return x;
    }

    /** The call answers an error or NONE, and an object that was called so is like one that was not. */
    static void refused(String what, Setup setup, Call call, int want) {
        due(what, call.on(made(setup)), want);
        same(what + " changes nothing", x -> {
            setup.on(x);
            call.on(x);
        }, setup);
    }

    /** Two ways to make an object come to the same: its state, its history, its text and its snapshot. */
    static void same(String what, Setup one, Setup other) {
        probed(what + ", the state", one, other, x -> 0);
        probed(what + ", the latest state", one, other, FrozenDistricts::undo);
        probed(what + ", the oldest state", one, other, Check::undoAll);
        probed(what + ", the text", one, other, x -> x.readVotes(0));
        probed(what + ", the text and one more", one, other, x -> x.type('1') + 1000 * x.readVotes(0));
        probed(what + ", the snapshot", one, other, FrozenDistricts::restore);
        probed(what + ", the rest", one, other, FrozenDistricts::adopt);
    }

    private static void probed(String what, Setup one, Setup other, Call probe) {
        FrozenDistricts x = made(one);
        FrozenDistricts y = made(other);
        due(what, probe.on(x), probe.on(y));
        alike(what, x, y);
    }

    /** All that is told of both is the same. */
    static void alike(String what, FrozenDistricts x, FrozenDistricts y) {
        List<String> told = look(x);
        List<String> want = look(y);
        for (int each = 0; each < told.size(); each++) {
            if (!told.get(each).equals(want.get(each))) {
                failed++;
                System.out.println("FAILED " + what + ": tells " + told.get(each) + ", due is " + want.get(each));
                return;
            }
        }
        passed++;
    }

    /** Undoes all there is; answers how many acts that were. */
    static int undoAll(FrozenDistricts x) {
        int undone = 0;
        while (undone < 9 && x.undo() != FrozenDistricts.NONE) {
            undone++;
        }
        return undone;
    }

    /** All that an object tells, in 332 calls. */
    static List<String> look(FrozenDistricts x) {
        List<String> told = new ArrayList<>();
        for (int cell = 0; cell < 36; cell++) {
            for (int what = 0; what < 5; what++) {
                told.add("cell(" + cell + ", " + what + ") = " + x.cell(cell, what));
            }
        }
        for (int number = 0; number < 9; number++) {
            for (int what = 0; what < 6; what++) {
                told.add("part(" + number + ", " + what + ") = " + x.part(number, what));
            }
            for (int what = 0; what < 8; what++) {
                told.add("district(" + number + ", " + what + ") = " + x.district(number, what));
            }
        }
        for (int what = 0; what < 2; what++) {
            told.add("why(" + what + ") = " + x.why(what));
        }
        told.add("advice() = " + x.advice());
        told.add("fairness() = " + x.fairness());
        for (int what = 0; what < 5; what++) {
            told.add("party(0, " + what + ") = " + x.party(0, what));
            told.add("party(1, " + what + ") = " + x.party(1, what));
        }
        for (int what = 0; what < 12; what++) {
            told.add("count(" + what + ") = " + x.count(what));
        }
        return told;
    }

    static void write(FrozenDistricts x, String text) {
        for (int index = 0; index < text.length(); index++) {
            x.type(text.charAt(index));
        }
    }

    /** Drafts the whole map: a digit for each cell's part, "." for none; six rows of six. */
    static void draftAll(FrozenDistricts x, String map) {
        for (int cell = 0; cell < 36; cell++) {
            char sign = map.charAt(cell);
            x.draft(cell, sign == '.' ? -1 : sign - '0');
        }
    }

    static void end(String name) {
        System.out.println(name + ": " + passed + " answers as due, " + failed + " not");
        if (failed != 0) {
            System.exit(1);
        }
    }
}
