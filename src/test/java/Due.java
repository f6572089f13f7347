import java.util.function.IntSupplier;

/** Counts the answers that are due and those that are not, for the tests of one class. */
final class Due {
    private final String test;
    private int passed;
    private int failed;

    Due(String test) {
        this.test = test;
    }

    void due(String call, long got, long want) {
        if (got == want) {
            passed++;
            return;
        }
        failed++;
        System.out.println(test + ": " + call + " answered " + got + ", due is " + want);
    }

    void holds(String what, boolean isSo) {
        due(what, isSo ? 1 : 0, 1);
    }

    /** A call that is refused: its answer, and that it changes nothing. */
    void refused(String call, PraiseDrawer x, IntSupplier answer, int want) {
        long before = x.digest();
        due(call, answer.getAsInt(), want);
        due(call + " changes nothing", x.digest(), before);
    }

    /** A call that answers 1 with THE FRACTION. */
    void fraction(String call, PraiseDrawer x, int answer, long above, long below) {
        due(call, answer, 1);
        fraction(call, x, above, below);
    }

    /** THE FRACTION, where each side is below the base. */
    void fraction(String call, PraiseDrawer x, long above, long below) {
        due(call + ": sign", x.sign(0), above == 0 ? 0 : 1);
        due(call + ": limbs above", x.sign(1), above == 0 ? 0 : 1);
        due(call + ": limbs below", x.sign(2), 1);
        due(call + ": above", x.limb(0, 0), above == 0 ? PraiseDrawer.NONE : above);
        due(call + ": below", x.limb(1, 0), below);
    }

    void end() {
        System.out.println(test + ": " + passed + " passed, " + failed + " failed");
        if (failed != 0) {
            System.exit(1);
        }
    }
}
