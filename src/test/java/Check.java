import java.util.ArrayList;
import java.util.Arrays;
import java.util.List;

/** What the project's tests share: answers are compared, and each one that is not due is printed. */
final class Check {
    /** Calls that bring a new object into the state that a test is about. */
    interface Setup {
        void on(FrozenDistricts x);
    }

    interface Call {
        int on(FrozenDistricts x);
    }

    private static int passed = 0;
    private static int failed = 0;

    private Check() {
    }

    static void due(String what, int got, int want) {
        if (got == want) {
            passed++;
            return;
        }
        failed++;
        System.out.println("FAILED " + what + ": answered " + got + ", due is " + want);
    }

    static void isTrue(String what, boolean holds) {
        due(what, holds ? 1 : 0, 1);
    }

    static FrozenDistricts made(Setup setup) {
        FrozenDistricts x = new FrozenDistricts();
        setup.on(x);
        return x;
    }

    /** The call answers an error or NONE, and an object that was called so is like one that was not. */
    static void refused(String what, Setup setup, Call call, int want) {
        FrozenDistricts called = made(setup);
        due(what, call.on(called), want);
        same(what + " changes nothing", called, made(setup));
    }

    /** Everything that is told of both is the same, also after their latest act is undone. */
    static void same(String what, FrozenDistricts x, FrozenDistricts y) {
        compare(what, look(x), look(y));
        due(what + ", undo()", x.undo(), y.undo());
        compare(what + ", after undo()", shortLook(x), shortLook(y));
    }

    private static void compare(String what, List<Integer> x, List<Integer> y) {
        if (x.equals(y)) {
            passed++;
            return;
        }
        failed++;
        System.out.println("FAILED " + what + ": tells " + x + ", due is " + y);
    }

    /** All that an object tells, in 332 calls. */
    static List<Integer> look(FrozenDistricts x) {
        List<Integer> told = new ArrayList<>();
        for (int cell = 0; cell < 36; cell++) {
            for (int what = 0; what < 5; what++) {
                told.add(x.cell(cell, what));
            }
        }
        for (int number = 0; number < 9; number++) {
            for (int what = 0; what < 6; what++) {
                told.add(x.part(number, what));
            }
            for (int what = 0; what < 8; what++) {
                told.add(x.district(number, what));
            }
        }
        told.addAll(Arrays.asList(x.why(0), x.why(1), x.advice(), x.fairness()));
        for (int what = 0; what < 5; what++) {
            told.add(x.party(0, what));
            told.add(x.party(1, what));
        }
        for (int what = 0; what < 12; what++) {
            told.add(x.count(what));
        }
        return told;
    }

    private static List<Integer> shortLook(FrozenDistricts x) {
        List<Integer> told = new ArrayList<>();
        for (int cell = 0; cell < 36; cell++) {
            told.add(10 * x.cell(cell, 0) + x.cell(cell, 1));
            told.add(100 * x.cell(cell, 2) + x.cell(cell, 3));
        }
        for (int what = 0; what < 12; what++) {
            told.add(x.count(what));
        }
        return told;
    }

    static void write(FrozenDistricts x, String text) {
        for (int index = 0; index < text.length(); index++) {
            x.type(text.charAt(index));
        }
    }

    /** Drafts the whole map: a digit for each cell's part, "." for none; six rows of six. */
    static void draftAll(FrozenDistricts x, String map) {
        for (int cell = 0; cell < 36; cell++) {
            char sign = map.charAt(cell);
            x.draft(cell, sign == '.' ? -1 : sign - '0');
        }
    }

    static void end(String name) {
        System.out.println(name + ": " + passed + " answers as due, " + failed + " not");
        if (failed != 0) {
            System.exit(1);
        }
    }
}
