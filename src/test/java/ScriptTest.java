import java.io.IOException;

/** The boundary cases of the section SCRIPTS and of the promises 27 to 29: a test a sentence. */
public final class ScriptTest extends Sentences {
    private static final String COMMANDS = "arwmspfel";
    private static final int[] NUMBERS = {1, 2, 3, 3, 3, 3, 1, 0, 0};
    private static final String DIGITS = "0123456789";

    public static void main(String[] args) throws IOException, IllegalAccessException {
        runAll(ScriptTest.class);
    }

    /** Every byte is tried behind the text: those of the list go on, each other one is a syntax error there. */
    private static void dueNext(String text, String goOn) {
        BorrowStacks early = new BorrowStacks();
        boolean whole = text.strip().endsWith(";");
        if (!whole) script(early, text, -10 - text.length());
        for (int b = 0; b < 128; b++) {
            BorrowStacks x = new BorrowStacks();
            // A '#' can never go on, so what stands before it is never executed.
            int position = goOn.indexOf(b) >= 0 ? text.length() + 1 : text.length();
            script(x, text + (char) b + '#', -10 - position);
            due("nothing is executed", x.pointerCount() + x.callDepth(), 0);
        }
    }

    /** The command as text and as direct calls come to the same state. */
    private static void dueSame(String command, BorrowStacks byScript, BorrowStacks byCall, int answer) {
        script(byScript, command, answer < 0 && answer != NONE ? -1000 : 1);
        due("the state behind '" + command + "'", byScript.digest(), byCall.digest());
    }

    private static BorrowStacks prepared() {
        BorrowStacks x = withCells(3);
        x.write(0, 2, 45);
        x.reborrow(0, RAW, 0, 3, 0);
        x.enterCall();
        return x;
    }

    // ---- SCRIPTS

    @Says(in = "SCRIPTS", text = "The text buffer holds at most 120 bytes.")
    static void buffer120Bytes() {
        BorrowStacks x = new BorrowStacks();
        for (int i = 1; i <= 120; i++) due("append", x.append(i == 119 ? 'e' : i == 120 ? ';' : ' '), i);
        dueError("a byte 121", x, FULL, () -> x.append('e'));
        due("all 120 are read", x.runScript(), 1);
        due("depth", x.callDepth(), 1);
        due("length", x.clearText(), 120);
    }

    @Says(in = "SCRIPTS", text = "A script is one or more commands, each ended by a semicolon:")
    static void oneOrMoreCommands() {
        script(new BorrowStacks(), "", -10);
        script(new BorrowStacks(), ";", -10);
        script(new BorrowStacks(), "e;", 1);
        script(new BorrowStacks(), "e;l;", 2);
        script(new BorrowStacks(), "e;l", -13);
        script(new BorrowStacks(), "e", -11);
        script(new BorrowStacks(), "e;;", -12);
        script(new BorrowStacks(), "e l;", -12);
        script(new BorrowStacks(), "el;", -11);
        script(new BorrowStacks(), "a1e;", -12);
        script(new BorrowStacks(), "e;l;".repeat(30), 60);
        script(new BorrowStacks(), "e;l;".repeat(29) + "e;l", -129);
        script(new BorrowStacks(), "e;l;".repeat(29) + "e;l ", -130);
        script(new BorrowStacks(), "e;l;".repeat(29) + "e;;;", -128);
    }

    @Says(in = "SCRIPTS", text = "\"a cells\" (allocate)")
    static void commandAllocate() {
        for (int cells = 0; cells <= 10; cells++) {
            BorrowStacks x = new BorrowStacks();
            int made = cells >= 1 && cells <= 8 ? x.allocate(cells) : INVALID;
            dueSame("a " + cells + ";", new BorrowStacks(), x, made);
        }
    }

    @Says(in = "SCRIPTS", text = "\"r pointer cell\" (read)")
    static void commandRead() {
        BorrowStacks x = prepared();
        x.reborrow(0, MUTABLE, 2, 1, 0);
        BorrowStacks y = prepared();
        y.reborrow(0, MUTABLE, 2, 1, 0);
        dueSame("r0 2;", x, y, y.read(0, 2));
        dueStack("it disables", x, 0, 2, "0U 2D");
        dueSame("r2 2;", x, y, y.read(2, 2));
        dueSame("r2 1;", x, y, y.read(2, 1));
        dueViolations("the cell is told", x, 2, NO_PERMISSION, 1);
        script(x, "r0 3;", -1000);
        script(x, "r3 0;", -1000);
    }

    @Says(in = "SCRIPTS", text = "\"w pointer cell value\" (write)")
    static void commandWrite() {
        BorrowStacks x = prepared();
        BorrowStacks y = prepared();
        dueSame("w1 2 99;", x, y, y.write(1, 2, 99));
        dueSame("w0 1 0;", x, y, y.write(0, 1, 0));
        dueSame("w1 1 7;", x, y, y.write(1, 1, 7));
        due("the value", x.read(1, 2), 99);
        due("nothing stored", x.read(0, 1), 0);
        script(x, "w0 3 1;", -1000);
        script(x, "w2 0 1;", -1000);
    }

    @Says(in = "SCRIPTS", text = "\"m pointer from count\" (reborrow MUTABLE, not protected)")
    static void commandMutable() {
        dueReborrow('m', MUTABLE, "0U 1W 2U");
    }

    @Says(in = "SCRIPTS", text = "\"s pointer from count\" (reborrow SHARED, not protected)")
    static void commandShared() {
        dueReborrow('s', SHARED, "0U 1W 2R");
    }

    @Says(in = "SCRIPTS", text = "\"p pointer from count\" (reborrow RAW, not protected)")
    static void commandRaw() {
        dueReborrow('p', RAW, "0U 1W 2W");
    }

    private static void dueReborrow(char letter, int kind, String stack) {
        BorrowStacks x = prepared();
        BorrowStacks y = prepared();
        dueSame(letter + "1 1 2;", x, y, y.reborrow(1, kind, 1, 2, 0));
        dueStack("before the range", x, 0, 0, "0U 1W");
        dueStack("in the range", x, 0, 1, stack);
        dueStack("not protected, though a call is active", x, 0, 2, stack);
        dueSame(letter + "2 0 3;", x, y, y.reborrow(2, kind, 0, 3, 0));
        script(x, letter + "1 1 3;", -1000);
        script(x, letter + "1 1 0;", -1000);
        script(x, letter + "1 3 1;", -1000);
        script(x, letter + "3 0 1;", -1000);
        due("no error is counted", x.errorCount(0), 0);
        due("pointers", x.pointerCount(), 3);
    }

    @Says(in = "SCRIPTS", text = "\"f pointer\" (free)")
    static void commandFree() {
        BorrowStacks x = prepared();
        BorrowStacks y = prepared();
        dueSame("f1;", x, y, y.free(1));
        due("freed", x.isFreed(0), 1);
        dueSame("f0;", x, y, y.free(0));
        script(x, "f2;", -1000);
    }

    @Says(in = "SCRIPTS", text = "\"e\" (enterCall), \"l\" (leaveCall).")
    static void commandsOfCalls() {
        BorrowStacks x = new BorrowStacks();
        script(x, "l;", -1000);
        script(x, "e;e;e;e;e;", 5);
        due("five", x.callDepth(), 5);
        script(x, "e;", -1000);
        script(x, "l;l;l;l;l;", 5);
        due("none", x.callDepth(), 0);
        script(x, "l;", -1000);
    }

    @Says(in = "SCRIPTS", text = "A number has one or two decimal digits.")
    static void numbersOfOneOrTwoDigits() {
        BorrowStacks x = new BorrowStacks();
        script(x, "a8;", 1);
        script(x, "a08;", 1);
        script(x, "a008;", -13);
        script(x, "a;", -11);
        script(x, "a ;", -12);
        script(x, "w0 7 99;w00 07 00;w1 0 09;w0 6 10;", 4);
        due("09 is 9", x.read(1, 0), 9);
        due("10 is 10", x.read(0, 6), 10);
        script(x, "r0 99;", -1000);
        script(x, "r99 0;", -1000);
        script(x, "w0 0 100;", -17);
        script(x, "a-1;", -11);
        script(x, "a+1;", -11);
        script(x, "a0x1;", -12);
        script(x, "a1.0;", -12);
    }

    @Says(in = "SCRIPTS", text = "A number has one or two decimal digits.")
    static void numbersOfThePointersUpTo59() {
        BorrowStacks x = withSixtyPointers();
        script(x, "w59 0 42;r59 0;", 2);
        script(x, "r60 0;", -1000);
        script(x, "r5 9;", -1000);
        due("value", x.read(59, 0), 42);
    }

    @Says(in = "SCRIPTS",
            text = "Spaces (byte 32) may stand between tokens, before the first and behind the last one;")
    static void spacesBetweenTokens() {
        BorrowStacks x = new BorrowStacks();
        script(x, "   a   2   ;   w   0   1   88   ;   r   0   1   ;   ", 3);
        due("value", x.read(0, 1), 88);
        script(x, "w0 1 77;r0 1;", 2);
        script(x, " e ; l ; ", 2);
        script(new BorrowStacks(), "e;  ", 1);
        script(x, "w0 1 8 8;", -17);
        due("value", x.read(0, 1), 77);
    }

    @Says(in = "SCRIPTS", text = "Spaces (byte 32)")
    static void spacesAreByte32Alone() {
        for (int b : new int[] {0, 9, 10, 11, 12, 13, 31, 33, 95, 127}) {
            BorrowStacks x = new BorrowStacks();
            char other = (char) b;
            script(x, other + "e;", -10);
            script(x, "a" + other + "1;", -11);
            script(x, "a1" + other + ";", -12);
            script(x, "r0" + other + "0;", -12);
            script(x, "e;" + other, -12);
            script(x, "e" + other + ";", -11);
            due("nothing executed", x.callDepth(), 0);
        }
    }

    @Says(in = "SCRIPTS", text = "at least one space must separate two numbers that would otherwise run together.")
    static void spaceBetweenNumbers() {
        BorrowStacks x = withCells(8);
        script(x, "r0 1;", 1);
        script(x, "r0  1;", 1);
        script(x, "r01;", -13);
        script(x, "r00 01;", 1);
        script(x, "r0001;", -13);
        script(x, "w0 01;", -15);
        script(x, "w00 1;", -15);
        script(x, "w0 1 1;", 1);
        script(x, "w001;", -13);
        script(x, "r0,1;", -12);
    }

    // ---- Promise 27: append

    @Says(in = "Promise 27: append", text = "- `value`: 0 to 127")
    static void appendEveryByte() {
        BorrowStacks x = new BorrowStacks();
        for (int b = 0; b < 120; b++) due("append " + b, x.append(b), b + 1);
        BorrowStacks y = new BorrowStacks();
        for (int b = 120; b < 128; b++) due("append " + b, y.append(b), b - 119);
    }

    @Says(in = "Promise 27: append", text = "INVALID if value is out of range;")
    static void appendOutOfRange() {
        BorrowStacks x = new BorrowStacks();
        x.append('e');
        for (int value : new int[] {-1, 128, 256 + 'e', 65536 + ';', -128, MIN, MAX}) {
            dueError("append " + value, x, INVALID, () -> x.append(value));
        }
        due("the length stays", x.append(';'), 2);
        due("the text stays", x.runScript(), 1);
    }

    @Says(in = "Promise 27: append", text = "FULL if the buffer has 120 bytes.")
    static void appendToFullBuffer() {
        BorrowStacks x = new BorrowStacks();
        for (int i = 1; i <= 119; i++) x.append(' ');
        due("byte 120", x.append(' '), 120);
        dueError("byte 121", x, FULL, () -> x.append(' '));
        dueError("byte 121", x, FULL, () -> x.append(0));
        dueError("INVALID comes before FULL", x, INVALID, () -> x.append(128));
        dueError("INVALID comes before FULL", x, INVALID, () -> x.append(-1));
        x.clearText();
        due("room again", x.append(' '), 1);
    }

    @Says(in = "Promise 27: append", text = "Returns the new length of the buffer;")
    static void appendTellsTheLength() {
        BorrowStacks x = new BorrowStacks();
        due("first", x.append('a'), 1);
        due("second", x.append('a'), 2);
        x.append(200);
        due("a refused byte does not count", x.append('a'), 3);
        x.runScript();
        due("running does not count", x.append('a'), 4);
    }

    // ---- Promise 28: clearText

    @Says(in = "Promise 28: clearText", text = "Empties the text buffer.")
    static void clearTextEmpties() {
        BorrowStacks x = new BorrowStacks();
        type(x, "e;l;e;");
        x.clearText();
        due("an empty buffer", x.runScript(), -10);
        script(x, "e;", 1);
        due("nothing of the old text is left", x.callDepth(), 1);
    }

    @Says(in = "Promise 28: clearText", text = "Returns its previous length.")
    static void clearTextTellsTheLength() {
        BorrowStacks x = new BorrowStacks();
        due("a new object", x.clearText(), 0);
        x.append(0);
        due("one byte", x.clearText(), 1);
        due("an empty buffer", x.clearText(), 0);
        for (int i = 0; i < 121; i++) x.append(' ');
        due("a full buffer", x.clearText(), 120);
        due("again", x.clearText(), 0);
    }

    // ---- Promise 29: runScript

    @Says(in = "Promise 29: runScript", text = "executes its commands in order.")
    static void runScriptInOrder() {
        BorrowStacks x = new BorrowStacks();
        script(x, "a1;w0 0 1;m0 0 1;w1 0 2;s1 0 1;p0 0 1;", 6);
        dueStack("in order", x, 0, 0, "0U 3W 1U 2R");
        due("value", x.read(2, 0), 2);
    }

    @Says(in = "Promise 29: runScript", text = "The buffer is not changed.")
    static void runScriptKeepsTheBuffer() {
        BorrowStacks x = new BorrowStacks();
        type(x, "a1;");
        for (int i = 1; i <= 10; i++) {
            due("again", x.runScript(), 1);
            due("allocations", x.pointerCount(), i);
        }
        due("it stops", x.runScript(), -1000);
        due("it stops again", x.runScript(), -1000);
        due("and can go on", x.append('e'), 4);
        due("a syntax error", x.runScript(), -14);
        due("stays one", x.runScript(), -14);
        due("length", x.clearText(), 4);
    }

    @Says(in = "Promise 29: runScript", text = "The whole script is parsed before the first command is executed.")
    static void runScriptParsesFirst() {
        BorrowStacks x = new BorrowStacks();
        long before = x.digest();
        script(x, "a1;a1;e;x", -18);
        script(x, "l;a1;x", -15);
        script(x, "r9 9;w", -16);
        script(x, "e;l;".repeat(29) + "e;e ", -130);
        due("nothing is executed", x.digest(), before);
    }

    @Says(in = "Promise 29: runScript", text = "A syntax error is at the position of the first byte that cannot continue"
            + " a valid script, or at the length of the buffer if the script ends too early.")
    static void runScriptSyntaxErrors() {
        dueNext("", " " + COMMANDS);
        dueNext(" ", " " + COMMANDS);
        dueNext("e;", " " + COMMANDS);
        dueNext("e; ", " " + COMMANDS);
        dueNext("w0 0 0;", " " + COMMANDS);
        for (int i = 0; i < COMMANDS.length(); i++) {
            String text = COMMANDS.substring(i, i + 1);
            dueNext(text, NUMBERS[i] == 0 ? " ;" : " " + DIGITS);
            dueNext(text + " ", NUMBERS[i] == 0 ? " ;" : " " + DIGITS);
            for (int n = 1; n <= NUMBERS[i]; n++) {
                boolean last = n == NUMBERS[i];
                dueNext(text + "1", " " + DIGITS + (last ? ";" : ""));
                dueNext(text + "12", last ? " ;" : " ");
                dueNext(text + "1 ", last ? " ;" : " " + DIGITS);
                dueNext(text + "12 ", last ? " ;" : " " + DIGITS);
                text = text + " 1 ";
            }
        }
    }

    @Says(in = "Promise 29: runScript", text = "or at the length of the buffer if the script ends too early.")
    static void runScriptEndsTooEarly() {
        String text = " w 12 3 45 ; r 1 2 ; e ";
        for (int length = 0; length <= text.length(); length++) {
            String start = text.substring(0, length);
            if (!start.strip().endsWith(";")) script(new BorrowStacks(), start, -10 - length);
        }
        script(new BorrowStacks(), "e;".repeat(59) + "e ", -130);
        script(new BorrowStacks(), "e;".repeat(59) + "e", -129);
    }

    @Says(in = "Promise 29: runScript", text = "An empty buffer and a buffer of spaces end too early.")
    static void runScriptOfNothing() {
        for (int length = 0; length <= 120; length++) {
            BorrowStacks x = new BorrowStacks();
            script(x, " ".repeat(length), -10 - length);
            due("no error is counted", x.errorCount(0), 0);
        }
    }

    @Says(in = "Promise 29: runScript", text = "A third digit of a number is a syntax error at that digit.")
    static void runScriptThirdDigit() {
        for (char digit = '0'; digit <= '9'; digit++) {
            script(new BorrowStacks(), "a12" + digit + ";", -13);
            script(new BorrowStacks(), "r 1 01" + digit, -16);
            script(new BorrowStacks(), "w0 0 99" + digit + "9;", -17);
            script(new BorrowStacks(), "m00" + digit + " 0 1;", -13);
        }
        script(new BorrowStacks(), "w1 2 3456;", -17);
    }

    @Says(in = "Promise 29: runScript",
            text = "Execution stops at the first command that returns INVALID, REJECTED, FULL or UNDEFINED.")
    static void runScriptStops() {
        BorrowStacks x = new BorrowStacks();
        script(x, "a1;a9;a1;", -1001);
        due("INVALID stops", x.pointerCount(), 1);
        script(x, "l;a1;", -1000);
        due("REJECTED stops", x.pointerCount(), 1);
        script(x, "e;e;e;e;e;e;a1;", -1005);
        due("FULL stops", x.pointerCount(), 1);
        script(x, "s0 0 1;w1 0 1;a1;", -1001);
        due("UNDEFINED stops", x.pointerCount(), 2);
        script(x, "r0 0;w0 0 0;m0 0 1;f0;a1;", 5);
        due("an answer of 0 goes on", x.pointerCount(), 4);
        script(x, "f0;a1;", -1000);
        due("FREED stops", x.pointerCount(), 4);
    }

    @Says(in = "Promise 29: runScript", text = "The commands before it keep their effect.")
    static void runScriptKeepsEarlierEffects() {
        BorrowStacks x = new BorrowStacks();
        script(x, "a2;w0 1 5;m0 0 1;e;r0 2;l;", -1004);
        due("allocate", x.isFreed(0), 0);
        dueStack("reborrow", x, 0, 0, "0U 1U");
        due("enterCall", x.callDepth(), 1);
        due("write", x.read(0, 1), 5);
        script(x, "f0;f0;", -1001);
        due("free", x.isFreed(0), 1);
    }

    @Says(in = "Promise 29: runScript", text = "A violation is remembered and counted as usual.")
    static void runScriptCountsViolations() {
        BorrowStacks x = withCells(3);
        script(x, "s0 2 1;w1 2 1;", -1001);
        dueViolations("NO_PERMISSION", x, 1, NO_PERMISSION, 2);
        x.enterCall();
        x.reborrow(0, MUTABLE, 1, 1, 1);
        script(x, "r0 1;", -1000);
        dueViolations("PROTECTED", x, 2, PROTECTED, 1);
        script(x, "l;f0;s0 1 2;", -1002);
        dueViolations("FREED", x, 3, FREED, 1);
    }

    @Says(in = "Promise 29: runScript", text = "Errors inside a script do not change the error counters.")
    static void runScriptCountsNoErrors() {
        BorrowStacks x = withSixtyPointers();
        long before = x.digest();
        for (String text : new String[] {"a0;", "a9;", "r60 0;", "r0 1;", "w60 0 0;", "m0 0 2;", "s60 0 1;", "p0 1 1;",
            "f60;", "l;", "a1;", "m0 0 1;", "s0 0 1;", "p0 0 1;"}) {
            script(x, text, -1000);
        }
        script(x, "e;e;e;e;e;e;", -1005);
        script(x, "l;l;l;l;l;l;", -1005);
        script(x, "x", -10);
        due("the state stays", x.digest(), before);
        for (int kind = 0; kind < 3; kind++) due("errorCount", x.errorCount(kind), 0);
        x.leaveCall();
        due("outside of a script", x.errorCount(1), 1);
    }

    @Says(in = "Promise 29: runScript", text = "Returns the number of commands;")
    static void runScriptTellsTheNumber() {
        for (int n = 1; n <= 30; n++) {
            script(new BorrowStacks(), "e;l;".repeat(n), 2 * n);
            script(new BorrowStacks(), "e;l;".repeat(n - 1) + "e;", 2 * n - 1);
        }
    }

    @Says(in = "Promise 29: runScript", text = "-10 - p for a syntax error at position p;")
    static void runScriptTellsThePosition() {
        for (int p = 0; p < 120; p++) {
            script(new BorrowStacks(), " ".repeat(p) + "#" + " ".repeat(119 - p), -10 - p);
        }
    }

    @Says(in = "Promise 29: runScript", text = "-1000 - k if the command with index k (from 0) stops the execution.")
    static void runScriptTellsTheStop() {
        for (int k = 0; k < 60; k++) {
            BorrowStacks x = new BorrowStacks();
            for (int i = 0; i < 4; i++) x.enterCall();
            boolean even = k % 2 == 0;
            // Behind an even number of commands four calls are active, behind an odd number five.
            if (even) x.enterCall();
            String fine = even ? "l;e;".repeat(k / 2) : "e;l;".repeat(k / 2) + "e;";
            script(x, fine + "e;".repeat(60 - k), -1000 - k);
        }
    }
}
