import java.util.function.IntSupplier;

/** What the hand-written tests share: the answers that are due, and what a failed call may change. */
abstract class Checks {
    static final int INVALID = -2, REJECTED = -3, FULL = -4, UNDEFINED = -5, NONE = -1;
    static final int UNIQUE = 0, SHARED_READ_WRITE = 1, SHARED_READ_ONLY = 2, DISABLED = 3;
    static final int MUTABLE = 0, SHARED = 1, RAW = 2;
    static final int NO_PERMISSION = 1, PROTECTED = 2, FREED = 3;
    static final int MIN = Integer.MIN_VALUE, MAX = Integer.MAX_VALUE;
    static int asked = 0;
    static int wrong = 0;

    static void endOfTest() {
        System.out.println(wrong == 0 ? "all answers are as due" : wrong + " answers are not as due");
        if (wrong != 0) System.exit(1);
    }

    static void due(String what, long got, long want) {
        asked++;
        if (got != want) fault(what + " answered " + got + ", due is " + want);
    }

    static void fault(String what) {
        wrong++;
        System.out.println(what);
    }

    static BorrowStacks withCells(int cells) {
        BorrowStacks x = new BorrowStacks();
        due("allocate", x.allocate(cells), 0);
        return x;
    }

    /** One cell with items of the tags 0 to 11, all UNIQUE. */
    static BorrowStacks withFullStack() {
        BorrowStacks x = withCells(1);
        for (int i = 1; i < 12; i++) due("filling the stack", x.reborrow(i - 1, MUTABLE, 0, 1, 0), i);
        return x;
    }

    /** One cell, whose stack has items of the tags 0 and 59. */
    static BorrowStacks withSixtyPointers() {
        BorrowStacks x = withCells(1);
        for (int i = 1; i < 60; i++) due("making pointers", x.reborrow(0, MUTABLE, 0, 1, 0), i);
        return x;
    }

    static void type(BorrowStacks x, String text) {
        x.clearText();
        for (int i = 0; i < text.length(); i++) {
            due("append of '" + text + "' at " + i, x.append(text.charAt(i)), i + 1);
        }
    }

    static void script(BorrowStacks x, String text, int want) {
        type(x, text);
        due("script '" + text + "'", x.runScript(), want);
        due("length behind script '" + text + "'", x.clearText(), text.length());
    }

    /** A stack from the bottom as tag, permission letter (U, W, R, D) and ! if protected: "0U 3W!". */
    static String stack(BorrowStacks x, int allocation, int cell) {
        StringBuilder shown = new StringBuilder();
        int size = x.stackSize(allocation, cell);
        for (int i = 0; i < size; i++) {
            if (i > 0) shown.append(' ');
            shown.append(x.itemTag(allocation, cell, i));
            int permission = x.itemPermission(allocation, cell, i);
            shown.append(permission < UNIQUE || permission > DISABLED ? '?' : "UWRD".charAt(permission));
            if (x.itemProtected(allocation, cell, i) == 1) shown.append('!');
        }
        return shown.toString();
    }

    static void dueStack(String what, BorrowStacks x, int allocation, int cell, String want) {
        asked++;
        String got = stack(x, allocation, cell);
        if (!got.equals(want)) fault(what + ": the stack is " + got + ", due is " + want);
    }

    /** The violations so far: their number, and the kind and the cell of the latest. */
    static void dueViolations(String what, BorrowStacks x, int count, int kind, int cell) {
        due(what + ": violationCount", x.violationCount(), count);
        due(what + ": violationKind", x.violationKind(), kind);
        due(what + ": violationCell", x.violationCell(), cell);
    }

    /** The call answers so and leaves the state as it was. */
    static void dueQuestion(String what, BorrowStacks x, int want, IntSupplier call) {
        long before = x.digest();
        due(what, call.getAsInt(), want);
        due(what + ": the state stays", x.digest(), before);
    }

    /** The call fails with the error code, whose counter grows by 1, and changes nothing else. */
    static void dueError(String what, BorrowStacks x, int code, IntSupplier call) {
        long first = firstWeight(x);
        int kind = INVALID - code;
        int count = x.errorCount(kind);
        long before = x.digest();
        due(what, call.getAsInt(), code);
        due(what + ": its counter", x.errorCount(kind), count + 1);
        long change = x.digest() - before;
        due(what + ": nothing but its counter changes", change * power(kind), first);
    }

    /** The call is a violation that is told so, and changes nothing else. */
    static void dueViolation(String what, BorrowStacks x, int kind, int cell, IntSupplier call) {
        long first = firstWeight(x);
        int oldCount = x.violationCount();
        int oldKind = x.violationKind();
        int oldCell = x.violationCell();
        long before = x.digest();
        due(what, call.getAsInt(), UNDEFINED);
        dueViolations(what, x, oldCount + 1, kind, cell);
        long change = x.digest() - before;
        // Count, kind and cell of the violation are the values 4, 5 and 6 of the digest.
        long told = power(2) + power(1) * (kind - oldKind) + (cell - oldCell);
        due(what + ": nothing but the violation changes", change * power(6), first * told);
    }

    /** The weight of the first value of the digest, which a wrong question raises by 1. */
    private static long firstWeight(BorrowStacks x) {
        long before = x.digest();
        due("a wrong question", x.errorCount(3), INVALID);
        return x.digest() - before;
    }

    /** 31 has an inverse modulo 2 to the 64, so two weights are told apart by any power of it. */
    private static long power(int exponent) {
        long made = 1;
        for (int i = 0; i < exponent; i++) made *= 31;
        return made;
    }

    static long hash(long... values) {
        long h = 12011;
        for (long value : values) h = 31 * h + value;
        return h;
    }
}
