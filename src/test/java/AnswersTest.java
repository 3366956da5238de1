import java.io.IOException;
import java.math.BigInteger;
import java.util.ArrayList;
import java.util.List;

/** The boundary cases of the promises 1 to 26 and 30 and of the constants: a test a sentence. */
public final class AnswersTest extends Sentences {
    public static void main(String[] args) throws IOException, IllegalAccessException {
        runAll(AnswersTest.class);
    }

    // ---- Promise 1: A new object

    @Says(in = "Promise 1: A new object", text = "Creates an interpreter without allocations, pointers and calls,")
    static void promise01Nothing() {
        BorrowStacks x = new BorrowStacks();
        dueQuestion("pointers", x, 0, x::pointerCount);
        dueQuestion("calls", x, 0, x::callDepth);
        dueError("no call to leave", x, REJECTED, x::leaveCall);
        dueError("no allocation", x, INVALID, () -> x.isFreed(0));
        dueError("no cell", x, INVALID, () -> x.stackSize(0, 0));
        dueError("no pointer", x, INVALID, () -> x.allocationOf(0));
        dueError("nothing to read", x, INVALID, () -> x.read(0, 0));
    }

    @Says(in = "Promise 1: A new object", text = "with an empty text buffer and all counters 0.")
    static void promise01CountersAndText() {
        BorrowStacks x = new BorrowStacks();
        for (int kind = 0; kind < 3; kind++) due("errorCount", x.errorCount(kind), 0);
        dueViolations("a new object", x, 0, 0, NONE);
        due("digest", x.digest(), hash(0, 0, 0, 0, 0, 0, -1, 0, 0, 0));
        due("an empty buffer", x.runScript(), -10);
        due("an empty buffer", x.clearText(), 0);
    }

    @Says(in = "Promise 1: A new object", text = "Creates an interpreter")
    static void promise01ObjectsAreApart() {
        BorrowStacks x = new BorrowStacks();
        long before = x.digest();
        BorrowStacks y = withCells(2);
        y.enterCall();
        y.append('e');
        y.read(5, 5);
        due("another object's calls are no matter", x.digest(), before);
        due("nor are earlier objects", new BorrowStacks().digest(), before);
    }

    // ---- Promise 2: allocate

    @Says(in = "Promise 2: allocate", text = "Returns the number of the new pointer;")
    static void promise02Number() {
        BorrowStacks x = withCells(1);
        x.reborrow(0, RAW, 0, 1, 0);
        due("behind a reborrow", x.allocate(8), 2);
        due("its parent", x.parent(2), NONE);
        due("its allocation", x.allocationOf(2), 1);
    }

    @Says(in = "Promise 2: allocate", text = "- `cells`: number of cells, 1 to 8")
    static void promise02Cells() {
        for (int cells = 1; cells <= 8; cells++) {
            BorrowStacks x = withCells(cells);
            for (int cell = 0; cell < cells; cell++) dueStack("a cell of " + cells, x, 0, cell, "0U");
            due("no more of them", x.stackSize(0, cells), INVALID);
        }
    }

    @Says(in = "Promise 2: allocate", text = "INVALID if cells is out of range;")
    static void promise02OutOfRange() {
        for (int cells = 1; cells <= 8; cells++) due("within", new BorrowStacks().allocate(cells), 0);
        BorrowStacks x = new BorrowStacks();
        for (int cells : new int[] {0, -1, 9, 10, 256 + 1, MIN, MAX}) {
            dueError("allocate " + cells, x, INVALID, () -> x.allocate(cells));
        }
        due("none was made", x.pointerCount(), 0);
    }

    @Says(in = "Promise 2: allocate", text = "FULL if there are 10 allocations or 60 pointers.")
    static void promise02Full() {
        BorrowStacks x = new BorrowStacks();
        for (int i = 0; i < 9; i++) x.allocate(8);
        due("the tenth", x.allocate(8), 9);
        dueError("the eleventh", x, FULL, () -> x.allocate(8));
        dueError("INVALID comes before FULL", x, INVALID, () -> x.allocate(0));
        BorrowStacks y = withCells(1);
        for (int i = 1; i < 59; i++) y.reborrow(0, MUTABLE, 0, 1, 0);
        due("pointer 59", y.allocate(1), 59);
        dueError("a pointer 60", y, FULL, () -> y.allocate(1));
        dueError("there are two allocations", y, INVALID, () -> y.isFreed(2));
        dueError("INVALID comes before FULL", y, INVALID, () -> y.allocate(9));
    }

    // ---- Promise 3: read

    @Says(in = "Promise 3: read", text = "Returns the value of the cell;")
    static void promise03Value() {
        BorrowStacks x = withCells(8);
        for (int cell = 0; cell < 8; cell++) x.write(0, cell, 92 + cell);
        for (int cell = 0; cell < 8; cell++) due("cell " + cell, x.read(0, cell), 92 + cell);
        x.allocate(1);
        due("another allocation", x.read(1, 0), 0);
        due("reads change no value", x.read(0, 7), 99);
    }

    @Says(in = "Promise 3: read", text = "INVALID if there is no such pointer or cell;")
    static void promise03Invalid() {
        BorrowStacks x = withCells(2);
        x.allocate(8);
        x.reborrow(0, MUTABLE, 1, 1, 0);
        dueError("pointer 3", x, INVALID, () -> x.read(3, 0));
        dueError("pointer -1", x, INVALID, () -> x.read(-1, 0));
        dueError("cell 2 of two", x, INVALID, () -> x.read(0, 2));
        dueError("cell -1", x, INVALID, () -> x.read(0, -1));
        dueError("cell 8 of eight", x, INVALID, () -> x.read(1, 8));
        dueError("cell 2 of two through a reborrow", x, INVALID, () -> x.read(2, 2));
        dueViolation("a cell outside of its range is a cell", x, NO_PERMISSION, 0, () -> x.read(2, 0));
        x.free(0);
        dueError("freed", x, INVALID, () -> x.read(0, 2));
        due("cell 7 of eight", x.read(1, 7), 0);
    }

    @Says(in = "Promise 3: read", text = "UNDEFINED if it is a violation.")
    static void promise03Undefined() {
        BorrowStacks x = withCells(1);
        x.reborrow(0, MUTABLE, 0, 1, 0);
        x.enterCall();
        x.reborrow(1, MUTABLE, 0, 1, 1);
        dueViolation("PROTECTED", x, PROTECTED, 0, () -> x.read(0, 0));
        x.leaveCall();
        x.read(0, 0);
        dueViolation("NO_PERMISSION", x, NO_PERMISSION, 0, () -> x.read(1, 0));
        x.free(0);
        dueViolation("FREED", x, FREED, 0, () -> x.read(0, 0));
    }

    // ---- Promise 4: write

    @Says(in = "Promise 4: write", text = "Returns the previous value of the cell;")
    static void promise04Previous() {
        BorrowStacks x = withCells(2);
        due("a new cell", x.write(0, 1, 99), 0);
        due("99", x.write(0, 1, 99), 99);
        due("99 again", x.write(0, 1, 0), 99);
        due("0", x.write(0, 1, 1), 0);
        due("the other cell", x.write(0, 0, 5), 0);
        due("1", x.read(0, 1), 1);
    }

    @Says(in = "Promise 4: write", text = "- `value`: new value, 0 to 99")
    static void promise04Values() {
        BorrowStacks x = withCells(1);
        for (int value = 0; value <= 99; value++) {
            x.write(0, 0, value);
            due("value " + value, x.read(0, 0), value);
        }
        dueError("value 100", x, INVALID, () -> x.write(0, 0, 100));
        dueError("value -1", x, INVALID, () -> x.write(0, 0, -1));
    }

    @Says(in = "Promise 4: write", text = "INVALID if an argument is out of range;")
    static void promise04Invalid() {
        BorrowStacks x = withCells(2);
        x.reborrow(0, SHARED, 0, 1, 0);
        dueError("pointer 2", x, INVALID, () -> x.write(2, 0, 0));
        dueError("pointer -1", x, INVALID, () -> x.write(-1, 0, 0));
        dueError("cell 2", x, INVALID, () -> x.write(0, 2, 0));
        dueError("cell -1", x, INVALID, () -> x.write(0, -1, 0));
        for (int value : new int[] {-1, 100, 256, MIN, MAX}) {
            dueError("value " + value, x, INVALID, () -> x.write(0, 0, value));
        }
        dueError("a wrong value comes before a violation", x, INVALID, () -> x.write(1, 0, 100));
        dueError("so does a wrong cell", x, INVALID, () -> x.write(1, 2, 0));
        dueStack("nothing was removed", x, 0, 0, "0U 1R");
    }

    @Says(in = "Promise 4: write", text = "UNDEFINED if it is a violation.")
    static void promise04Undefined() {
        BorrowStacks x = withCells(2);
        x.write(0, 1, 6);
        x.reborrow(0, SHARED, 1, 1, 0);
        dueViolation("NO_PERMISSION", x, NO_PERMISSION, 1, () -> x.write(1, 1, 7));
        x.enterCall();
        x.reborrow(0, SHARED, 1, 1, 1);
        dueViolation("PROTECTED", x, PROTECTED, 1, () -> x.write(0, 1, 7));
        due("nothing stored", x.read(0, 1), 6);
        x.leaveCall();
        x.free(0);
        dueViolation("FREED", x, FREED, 1, () -> x.write(0, 1, 7));
    }

    // ---- Promise 5: reborrow

    @Says(in = "Promise 5: reborrow", text = "Returns the number of the new pointer;")
    static void promise05Number() {
        BorrowStacks x = withCells(1);
        due("first", x.reborrow(0, MUTABLE, 0, 1, 0), 1);
        x.reborrow(7, MUTABLE, 0, 1, 0);
        x.reborrow(0, MUTABLE, 0, 1, 1);
        due("refused ones take no number", x.reborrow(1, SHARED, 0, 1, 0), 2);
        x.write(2, 0, 1);
        due("nor do violations", x.reborrow(1, RAW, 0, 1, 0), 3);
        due("parent", x.parent(3), 1);
    }

    @Says(in = "Promise 5: reborrow", text = "- `kind`: MUTABLE, SHARED or RAW")
    static void promise05Kind() {
        for (int kind : new int[] {-1, 3, 4, MIN, MAX}) {
            BorrowStacks x = withCells(1);
            dueError("kind " + kind, x, INVALID, () -> x.reborrow(0, kind, 0, 1, 0));
        }
        int[] permissions = {UNIQUE, SHARED_READ_ONLY, SHARED_READ_WRITE};
        for (int kind = MUTABLE; kind <= RAW; kind++) {
            BorrowStacks x = withCells(1);
            due("kind " + kind, x.reborrow(0, kind, 0, 1, 0), 1);
            due("its permission", x.itemPermission(0, 0, 1), permissions[kind]);
        }
    }

    @Says(in = "Promise 5: reborrow", text = "- `from`: index of the first cell of the range")
    static void promise05From() {
        for (int from = 0; from < 8; from++) {
            BorrowStacks x = withCells(8);
            due("from " + from, x.reborrow(0, SHARED, from, 1, 0), 1);
            for (int cell = 0; cell < 8; cell++) due("cell " + cell, x.stackSize(0, cell), cell == from ? 2 : 1);
        }
        BorrowStacks y = withCells(8);
        dueError("from -1", y, INVALID, () -> y.reborrow(0, SHARED, -1, 1, 0));
        dueError("from 8", y, INVALID, () -> y.reborrow(0, SHARED, 8, 1, 0));
    }

    @Says(in = "Promise 5: reborrow",
            text = "- `count`: number of cells in the range, 1 or more; the range must lie within the allocation")
    static void promise05Range() {
        for (int from = -2; from <= 5; from++) {
            for (int count = -2; count <= 5; count++) {
                BorrowStacks x = withCells(4);
                int first = from;
                int cells = count;
                if (from >= 0 && count >= 1 && from + count <= 4) {
                    due("from " + from + " count " + count, x.reborrow(0, RAW, from, count, 0), 1);
                    due("its cells", x.liveCells(1), count);
                } else {
                    dueError("from " + from + " count " + count, x, INVALID, () -> x.reborrow(0, RAW, first, cells, 0));
                }
            }
        }
    }

    @Says(in = "Promise 5: reborrow", text = "the range must lie within the allocation")
    static void promise05RangeThatWrapsAround() {
        BorrowStacks x = withCells(8);
        dueError("1 + MAX wraps", x, INVALID, () -> x.reborrow(0, RAW, 1, MAX, 0));
        dueError("7 + MAX wraps", x, INVALID, () -> x.reborrow(0, RAW, 7, MAX, 0));
        dueError("0 + MAX", x, INVALID, () -> x.reborrow(0, RAW, 0, MAX, 0));
        dueError("MAX + 1 wraps", x, INVALID, () -> x.reborrow(0, RAW, MAX, 1, 0));
        dueError("MAX + MAX wraps", x, INVALID, () -> x.reborrow(0, RAW, MAX, MAX, 0));
        dueError("MIN + MIN wraps to 0", x, INVALID, () -> x.reborrow(0, RAW, MIN, MIN, 0));
        dueError("MIN + MAX is -1", x, INVALID, () -> x.reborrow(0, RAW, MIN, MAX, 0));
        dueError("-1 + 2 is within", x, INVALID, () -> x.reborrow(0, RAW, -1, 2, 0));
        dueError("8 + 0 is the end", x, INVALID, () -> x.reborrow(0, RAW, 8, 0, 0));
        dueError("MIN", x, INVALID, () -> x.reborrow(0, RAW, 0, MIN, 0));
        due("all eight", x.reborrow(0, RAW, 0, 8, 0), 1);
    }

    @Says(in = "Promise 5: reborrow", text = "- `protect`: 1 if the new items are protected by the innermost active"
            + " call, 0 if they have no protector")
    static void promise05Protect() {
        BorrowStacks x = withCells(3);
        for (int protect : new int[] {-1, 2, MIN, MAX}) {
            dueError("protect " + protect, x, INVALID, () -> x.reborrow(0, RAW, 0, 1, protect));
        }
        x.enterCall();
        dueError("protect 2 in a call", x, INVALID, () -> x.reborrow(0, RAW, 0, 1, 2));
        due("all the new items", x.reborrow(0, RAW, 0, 3, 1), 1);
        due("none of them", x.reborrow(1, RAW, 0, 3, 0), 2);
        for (int cell = 0; cell < 3; cell++) dueStack("cell " + cell, x, 0, cell, "0U 1W! 2W");
    }

    @Says(in = "Promise 5: reborrow", text = "INVALID if an argument is out of range;")
    static void promise05Pointer() {
        BorrowStacks x = withCells(1);
        dueError("pointer 1 of one", x, INVALID, () -> x.reborrow(1, RAW, 0, 1, 0));
        dueError("pointer -1", x, INVALID, () -> x.reborrow(-1, RAW, 0, 1, 0));
        x.free(0);
        dueError("a wrong range comes before FREED", x, INVALID, () -> x.reborrow(0, RAW, 0, 2, 0));
    }

    @Says(in = "Promise 5: reborrow", text = "REJECTED if protect is 1 and no call is active;")
    static void promise05Rejected() {
        BorrowStacks x = withCells(1);
        for (int kind = MUTABLE; kind <= RAW; kind++) {
            int one = kind;
            dueError("kind " + kind, x, REJECTED, () -> x.reborrow(0, one, 0, 1, 1));
        }
        due("protect 0", x.reborrow(0, MUTABLE, 0, 1, 0), 1);
        x.enterCall();
        due("one call is active", x.reborrow(1, MUTABLE, 0, 1, 1), 2);
        x.leaveCall();
        dueError("none again", x, REJECTED, () -> x.reborrow(2, MUTABLE, 0, 1, 1));
        dueError("REJECTED comes before a violation", x, REJECTED, () -> x.reborrow(0, SHARED, 0, 1, 1));
    }

    @Says(in = "Promise 5: reborrow", text = "UNDEFINED if it is a violation;")
    static void promise05Undefined() {
        BorrowStacks x = withCells(2);
        x.reborrow(0, SHARED, 0, 1, 0);
        dueViolation("shared of no item", x, NO_PERMISSION, 1, () -> x.reborrow(1, SHARED, 0, 2, 0));
        dueViolation("mutable of read-only", x, NO_PERMISSION, 0, () -> x.reborrow(1, MUTABLE, 0, 2, 0));
        dueViolation("raw of read-only", x, NO_PERMISSION, 0, () -> x.reborrow(1, RAW, 0, 2, 0));
        dueStack("cell 0", x, 0, 0, "0U 1R");
    }

    @Says(in = "Promise 5: reborrow", text = "FULL if there are 60 pointers")
    static void promise05FullOfPointers() {
        BorrowStacks x = withCells(1);
        for (int i = 1; i < 59; i++) x.reborrow(0, MUTABLE, 0, 1, 0);
        due("pointer 59", x.reborrow(0, MUTABLE, 0, 1, 0), 59);
        for (int kind = MUTABLE; kind <= RAW; kind++) {
            int one = kind;
            dueError("a pointer 60 of kind " + kind, x, FULL, () -> x.reborrow(0, one, 0, 1, 0));
        }
        dueStack("the stack has room", x, 0, 0, "0U 59U");
    }

    @Says(in = "Promise 5: reborrow", text = "or if a stack would have more than 12 items.")
    static void promise05FullOfItems() {
        BorrowStacks x = withCells(3);
        for (int i = 1; i < 11; i++) due("filling cell 1", x.reborrow(i - 1, MUTABLE, 1, 1, 0), i);
        due("the twelfth item", x.reborrow(10, SHARED, 1, 1, 0), 11);
        due("size", x.stackSize(0, 1), 12);
        dueError("shared", x, FULL, () -> x.reborrow(0, SHARED, 0, 3, 0));
        dueError("raw", x, FULL, () -> x.reborrow(0, RAW, 0, 3, 0));
        dueError("the last cell of the range", x, FULL, () -> x.reborrow(0, RAW, 0, 2, 0));
        dueError("the first cell of the range", x, FULL, () -> x.reborrow(0, RAW, 1, 2, 0));
        due("a range without it", x.reborrow(0, RAW, 2, 1, 0), 12);
        dueStack("nothing was put elsewhere", x, 0, 0, "0U");
        due("mutable removes first", x.reborrow(10, MUTABLE, 1, 1, 0), 13);
        due("size", x.stackSize(0, 1), 12);
        dueError("mutable of the top removes none", x, FULL, () -> x.reborrow(13, MUTABLE, 1, 1, 0));
    }

    @Says(in = "Promise 5: reborrow", text = "or if a stack would have more than 12 items.")
    static void promise05FullOfItemsThatStay() {
        BorrowStacks x = withCells(1);
        x.reborrow(0, RAW, 0, 1, 0);
        for (int i = 2; i < 11; i++) x.reborrow(1, RAW, 0, 1, 0);
        due("eleven", x.stackSize(0, 0), 11);
        due("mutable of raw, the twelfth", x.reborrow(1, MUTABLE, 0, 1, 0), 11);
        due("again: the last one goes", x.reborrow(1, MUTABLE, 0, 1, 0), 12);
        due("twelve", x.stackSize(0, 0), 12);
        dueError("raw: the raw ones stay", x, FULL, () -> x.reborrow(1, RAW, 0, 1, 0));
        x.write(1, 0, 1);
        due("the twelfth raw or unique", x.reborrow(1, RAW, 0, 1, 0), 13);
        dueError("mutable: all twelve stay", x, FULL, () -> x.reborrow(1, MUTABLE, 0, 1, 0));
        due("mutable of the bottom", x.reborrow(0, MUTABLE, 0, 1, 0), 14);
        dueStack("two", x, 0, 0, "0U 14U");
    }

    // ---- Promise 6: free

    @Says(in = "Promise 6: free", text = "Returns the number of cells of the allocation;")
    static void promise06Cells() {
        for (int cells = 1; cells <= 8; cells++) {
            BorrowStacks x = withCells(cells);
            x.reborrow(0, MUTABLE, 0, cells, 0);
            due("free of " + cells, x.free(1), cells);
            due("freed", x.isFreed(0), 1);
        }
    }

    @Says(in = "Promise 6: free", text = "INVALID if there is no such pointer;")
    static void promise06Invalid() {
        BorrowStacks x = withCells(1);
        for (int pointer : new int[] {1, -1, 60, MIN, MAX}) {
            dueError("pointer " + pointer, x, INVALID, () -> x.free(pointer));
        }
        due("not freed", x.isFreed(0), 0);
    }

    @Says(in = "Promise 6: free", text = "UNDEFINED if it is a violation.")
    static void promise06Undefined() {
        BorrowStacks x = withCells(1);
        x.reborrow(0, SHARED, 0, 1, 0);
        dueViolation("NO_PERMISSION", x, NO_PERMISSION, 0, () -> x.free(1));
        x.enterCall();
        x.reborrow(0, RAW, 0, 1, 1);
        dueViolation("PROTECTED", x, PROTECTED, 0, () -> x.free(0));
        due("not freed", x.isFreed(0), 0);
        x.leaveCall();
        due("free", x.free(0), 1);
        dueViolation("FREED", x, FREED, 0, () -> x.free(0));
    }

    // ---- Promises 7 and 8: enterCall, leaveCall

    @Says(in = "Promise 7: enterCall", text = "Returns the number of active calls; FULL if 5 calls are active.")
    static void promise07Enter() {
        BorrowStacks x = new BorrowStacks();
        for (int i = 1; i <= 5; i++) due("enter", x.enterCall(), i);
        for (int i = 0; i < 3; i++) dueError("five are active", x, FULL, x::enterCall);
        due("depth", x.callDepth(), 5);
    }

    @Says(in = "Promise 8: leaveCall",
            text = "Returns the number of calls that are still active; REJECTED if no call is active.")
    static void promise08Leave() {
        BorrowStacks x = new BorrowStacks();
        dueError("a new object", x, REJECTED, x::leaveCall);
        for (int i = 0; i < 5; i++) x.enterCall();
        for (int i = 4; i >= 0; i--) due("leave", x.leaveCall(), i);
        for (int i = 0; i < 3; i++) dueError("none is active", x, REJECTED, x::leaveCall);
        due("depth", x.callDepth(), 0);
        due("enter", x.enterCall(), 1);
    }

    // ---- Promises 9 to 12: questions

    /** One cell with "0U 1U! 2W 3U 4R", and a second one with "0U". */
    private static BorrowStacks layered() {
        BorrowStacks x = withCells(2);
        x.enterCall();
        x.reborrow(0, MUTABLE, 0, 1, 1);
        x.reborrow(1, RAW, 0, 1, 0);
        x.reborrow(2, MUTABLE, 0, 1, 0);
        x.reborrow(3, SHARED, 0, 1, 0);
        dueStack("layers", x, 0, 0, "0U 1U! 2W 3U 4R");
        return x;
    }

    @Says(in = "Promise 9: checkRead", text = "Returns 0 if it is no violation, otherwise the kind of the violation;")
    static void promise09Kinds() {
        BorrowStacks x = layered();
        int[] kinds = {PROTECTED, 0, 0, 0, 0};
        for (int p = 0; p < 5; p++) {
            int pointer = p;
            dueQuestion("checkRead of " + p, x, kinds[p], () -> x.checkRead(pointer, 0));
        }
        dueQuestion("at the other cell", x, 0, () -> x.checkRead(0, 1));
        dueQuestion("no item", x, NO_PERMISSION, () -> x.checkRead(4, 1));
        x.read(2, 0);
        dueQuestion("disabled", x, NO_PERMISSION, () -> x.checkRead(3, 0));
        x.leaveCall();
        dueQuestion("no longer protected", x, 0, () -> x.checkRead(0, 0));
        x.free(0);
        dueQuestion("freed", x, FREED, () -> x.checkRead(0, 0));
        dueQuestion("freed, and no item", x, FREED, () -> x.checkRead(4, 1));
        dueViolations("questions are no violations", x, 0, 0, NONE);
    }

    @Says(in = "Promise 9: checkRead", text = "INVALID if there is no such pointer or cell.")
    static void promise09Invalid() {
        BorrowStacks x = layered();
        dueError("pointer 5", x, INVALID, () -> x.checkRead(5, 0));
        dueError("pointer -1", x, INVALID, () -> x.checkRead(-1, 0));
        dueError("cell 2", x, INVALID, () -> x.checkRead(0, 2));
        dueError("cell -1", x, INVALID, () -> x.checkRead(0, -1));
        x.leaveCall();
        x.free(0);
        dueError("INVALID comes before FREED", x, INVALID, () -> x.checkRead(0, 2));
    }

    @Says(in = "Promise 10: checkWrite", text = "Returns 0 if it is no violation, otherwise the kind of the violation;")
    static void promise10Kinds() {
        BorrowStacks x = layered();
        int[] kinds = {PROTECTED, 0, 0, 0, NO_PERMISSION};
        for (int p = 0; p < 5; p++) {
            int pointer = p;
            dueQuestion("checkWrite of " + p, x, kinds[p], () -> x.checkWrite(pointer, 0));
        }
        dueQuestion("at the other cell", x, 0, () -> x.checkWrite(0, 1));
        dueQuestion("no item", x, NO_PERMISSION, () -> x.checkWrite(1, 1));
        x.read(2, 0);
        dueQuestion("disabled", x, NO_PERMISSION, () -> x.checkWrite(3, 0));
        x.leaveCall();
        dueQuestion("no longer protected", x, 0, () -> x.checkWrite(0, 0));
        x.free(0);
        dueQuestion("freed", x, FREED, () -> x.checkWrite(0, 0));
        dueQuestion("freed, and read-only", x, FREED, () -> x.checkWrite(4, 0));
        dueViolations("questions are no violations", x, 0, 0, NONE);
    }

    @Says(in = "Promise 10: checkWrite", text = "INVALID if there is no such pointer or cell.")
    static void promise10Invalid() {
        BorrowStacks x = layered();
        dueError("pointer 5", x, INVALID, () -> x.checkWrite(5, 0));
        dueError("pointer -1", x, INVALID, () -> x.checkWrite(-1, 0));
        dueError("cell 2", x, INVALID, () -> x.checkWrite(0, 2));
        dueError("cell -1", x, INVALID, () -> x.checkWrite(0, -1));
        x.leaveCall();
        x.free(0);
        dueError("INVALID comes before FREED", x, INVALID, () -> x.checkWrite(0, 2));
    }

    @Says(in = "Promise 11: checkFree",
            text = "Returns 0 if it is no violation, otherwise the kind of the violation that would be told;")
    static void promise11Kinds() {
        BorrowStacks x = layered();
        int[] kinds = {PROTECTED, PROTECTED, PROTECTED, PROTECTED, NO_PERMISSION};
        for (int p = 0; p < 5; p++) {
            int pointer = p;
            dueQuestion("checkFree of " + p, x, kinds[p], () -> x.checkFree(pointer));
        }
        x.leaveCall();
        dueQuestion("no longer protected", x, 0, () -> x.checkFree(0));
        dueQuestion("no item at cell 1", x, NO_PERMISSION, () -> x.checkFree(1));
        due("not freed by questions", x.isFreed(0), 0);
        x.free(0);
        dueQuestion("freed", x, FREED, () -> x.checkFree(0));
        dueQuestion("freed, and read-only", x, FREED, () -> x.checkFree(4));
        dueViolations("questions are no violations", x, 0, 0, NONE);
    }

    @Says(in = "Promise 11: checkFree", text = "INVALID if there is no such pointer.")
    static void promise11Invalid() {
        BorrowStacks x = withCells(1);
        dueError("pointer 1", x, INVALID, () -> x.checkFree(1));
        dueError("pointer -1", x, INVALID, () -> x.checkFree(-1));
        x.free(0);
        dueError("freed", x, INVALID, () -> x.checkFree(1));
    }

    @Says(in = "Promise 12: removedByWrite", text = "Returns the number of items;")
    static void promise12Number() {
        BorrowStacks x = withFullStack();
        for (int p = 0; p < 12; p++) {
            int pointer = p;
            dueQuestion("through " + p, x, 11 - p, () -> x.removedByWrite(pointer, 0));
        }
        BorrowStacks y = withCells(1);
        y.reborrow(0, RAW, 0, 1, 0);
        y.reborrow(1, RAW, 0, 1, 0);
        y.enterCall();
        y.reborrow(1, RAW, 0, 1, 1);
        dueQuestion("raw ones stay, even protected", y, 0, () -> y.removedByWrite(1, 0));
        y.reborrow(3, MUTABLE, 0, 1, 0);
        y.reborrow(4, RAW, 0, 1, 0);
        dueQuestion("those above the raw ones", y, 2, () -> y.removedByWrite(1, 0));
        y.leaveCall();
        dueQuestion("all above the bottom", y, 5, () -> y.removedByWrite(0, 0));
        due("the write", y.write(0, 0, 1), 0);
        due("removes them", y.stackSize(0, 0), 1);
    }

    @Says(in = "Promise 12: removedByWrite", text = "NONE if the write access is a violation;")
    static void promise12None() {
        BorrowStacks x = layered();
        dueQuestion("PROTECTED", x, NONE, () -> x.removedByWrite(0, 0));
        dueQuestion("read-only", x, NONE, () -> x.removedByWrite(4, 0));
        dueQuestion("no item", x, NONE, () -> x.removedByWrite(4, 1));
        x.read(2, 0);
        dueQuestion("disabled", x, NONE, () -> x.removedByWrite(3, 0));
        x.leaveCall();
        dueQuestion("no longer protected", x, 4, () -> x.removedByWrite(0, 0));
        x.free(0);
        dueQuestion("FREED", x, NONE, () -> x.removedByWrite(0, 0));
        dueViolations("questions are no violations", x, 0, 0, NONE);
    }

    @Says(in = "Promise 12: removedByWrite", text = "INVALID if there is no such pointer or cell.")
    static void promise12Invalid() {
        BorrowStacks x = layered();
        dueError("pointer 5", x, INVALID, () -> x.removedByWrite(5, 0));
        dueError("pointer -1", x, INVALID, () -> x.removedByWrite(-1, 0));
        dueError("cell 2", x, INVALID, () -> x.removedByWrite(0, 2));
        dueError("cell -1", x, INVALID, () -> x.removedByWrite(0, -1));
        x.leaveCall();
        x.free(0);
        dueError("INVALID comes before NONE", x, INVALID, () -> x.removedByWrite(0, 2));
    }

    // ---- Promises 13 to 16: stacks

    @Says(in = "Promise 13: stackSize", text = "Returns the number of items; INVALID if there is no such allocation or cell.")
    static void promise13Size() {
        BorrowStacks x = layered();
        x.allocate(1);
        dueQuestion("five", x, 5, () -> x.stackSize(0, 0));
        dueQuestion("one", x, 1, () -> x.stackSize(0, 1));
        dueQuestion("one", x, 1, () -> x.stackSize(1, 0));
        BorrowStacks y = withFullStack();
        dueQuestion("twelve", y, 12, () -> y.stackSize(0, 0));
        dueError("allocation 2", x, INVALID, () -> x.stackSize(2, 0));
        dueError("allocation -1", x, INVALID, () -> x.stackSize(-1, 0));
        dueError("cell 2 of two", x, INVALID, () -> x.stackSize(0, 2));
        dueError("cell 1 of one", x, INVALID, () -> x.stackSize(1, 1));
        dueError("cell -1", x, INVALID, () -> x.stackSize(0, -1));
        x.leaveCall();
        x.free(0);
        dueQuestion("freed", x, 5, () -> x.stackSize(0, 0));
    }

    @Says(in = "Promise 14: itemTag", text = "Returns the tag; INVALID if there is no such item.")
    static void promise14Tag() {
        BorrowStacks x = layered();
        for (int i = 0; i < 5; i++) {
            int index = i;
            dueQuestion("index " + i, x, i, () -> x.itemTag(0, 0, index));
        }
        dueError("index 5", x, INVALID, () -> x.itemTag(0, 0, 5));
        dueError("index -1", x, INVALID, () -> x.itemTag(0, 0, -1));
        dueError("index 1 of the other cell", x, INVALID, () -> x.itemTag(0, 1, 1));
        dueError("cell 2", x, INVALID, () -> x.itemTag(0, 2, 0));
        dueError("cell -1", x, INVALID, () -> x.itemTag(0, -1, 0));
        dueError("allocation 1", x, INVALID, () -> x.itemTag(1, 0, 0));
        dueError("allocation -1", x, INVALID, () -> x.itemTag(-1, 0, 0));
        x.write(2, 0, 1);
        dueError("a removed item", x, INVALID, () -> x.itemTag(0, 0, 3));
        BorrowStacks y = withFullStack();
        dueQuestion("the twelfth", y, 11, () -> y.itemTag(0, 0, 11));
        dueError("a thirteenth", y, INVALID, () -> y.itemTag(0, 0, 12));
    }

    @Says(in = "Promise 15: itemPermission", text = "Returns UNIQUE, SHARED_READ_WRITE, SHARED_READ_ONLY or DISABLED;"
            + " INVALID if there is no such item.")
    static void promise15Permission() {
        BorrowStacks x = layered();
        x.read(2, 0);
        int[] permissions = {UNIQUE, UNIQUE, SHARED_READ_WRITE, DISABLED, SHARED_READ_ONLY};
        for (int i = 0; i < 5; i++) {
            int index = i;
            dueQuestion("index " + i, x, permissions[i], () -> x.itemPermission(0, 0, index));
        }
        dueError("index 5", x, INVALID, () -> x.itemPermission(0, 0, 5));
        dueError("index -1", x, INVALID, () -> x.itemPermission(0, 0, -1));
        dueError("index 1 of the other cell", x, INVALID, () -> x.itemPermission(0, 1, 1));
        dueError("cell 2", x, INVALID, () -> x.itemPermission(0, 2, 0));
        dueError("cell -1", x, INVALID, () -> x.itemPermission(0, -1, 0));
        dueError("allocation 1", x, INVALID, () -> x.itemPermission(1, 0, 0));
        dueError("allocation -1", x, INVALID, () -> x.itemPermission(-1, 0, 0));
        x.write(2, 0, 1);
        dueError("a removed item", x, INVALID, () -> x.itemPermission(0, 0, 3));
        BorrowStacks y = withFullStack();
        dueQuestion("the twelfth", y, UNIQUE, () -> y.itemPermission(0, 0, 11));
        dueError("a thirteenth", y, INVALID, () -> y.itemPermission(0, 0, 12));
    }

    @Says(in = "Promise 16: itemProtected",
            text = "Returns 1 if it is protected by an active call, otherwise 0; INVALID if there is no such item.")
    static void promise16Protected() {
        BorrowStacks x = layered();
        int[] isProtected = {0, 1, 0, 0, 0};
        for (int i = 0; i < 5; i++) {
            int index = i;
            dueQuestion("index " + i, x, isProtected[i], () -> x.itemProtected(0, 0, index));
        }
        dueError("index 5", x, INVALID, () -> x.itemProtected(0, 0, 5));
        dueError("index -1", x, INVALID, () -> x.itemProtected(0, 0, -1));
        dueError("index 1 of the other cell", x, INVALID, () -> x.itemProtected(0, 1, 1));
        dueError("cell 2", x, INVALID, () -> x.itemProtected(0, 2, 0));
        dueError("cell -1", x, INVALID, () -> x.itemProtected(0, -1, 0));
        dueError("allocation 1", x, INVALID, () -> x.itemProtected(1, 0, 0));
        dueError("allocation -1", x, INVALID, () -> x.itemProtected(-1, 0, 0));
        x.leaveCall();
        dueQuestion("no longer", x, 0, () -> x.itemProtected(0, 0, 1));
        x.enterCall();
        dueQuestion("not by another call", x, 0, () -> x.itemProtected(0, 0, 1));
        x.write(1, 0, 1);
        dueError("a removed item", x, INVALID, () -> x.itemProtected(0, 0, 2));
        BorrowStacks y = withFullStack();
        dueQuestion("the twelfth", y, 0, () -> y.itemProtected(0, 0, 11));
        dueError("a thirteenth", y, INVALID, () -> y.itemProtected(0, 0, 12));
    }

    @Says(in = "Promise 16: itemProtected", text = "Tells whether an item is protected now.")
    static void promise16TwelfthItem() {
        BorrowStacks x = withCells(1);
        x.enterCall();
        for (int i = 1; i < 12; i++) x.reborrow(i - 1, SHARED, 0, 1, 1);
        for (int i = 0; i < 12; i++) due("index " + i, x.itemProtected(0, 0, i), i == 0 ? 0 : 1);
        x.leaveCall();
        for (int i = 0; i < 12; i++) due("index " + i + " now", x.itemProtected(0, 0, i), 0);
    }

    // ---- Promises 17 to 22: pointers, allocations, calls

    @Says(in = "Promise 17: allocationOf", text = "Returns the number of the allocation; INVALID if there is no such pointer.")
    static void promise17AllocationOf() {
        BorrowStacks x = withCells(1);
        x.allocate(1);
        x.reborrow(1, SHARED, 0, 1, 0);
        x.reborrow(0, SHARED, 0, 1, 0);
        int[] homes = {0, 1, 1, 0};
        for (int p = 0; p < 4; p++) {
            int pointer = p;
            dueQuestion("pointer " + p, x, homes[p], () -> x.allocationOf(pointer));
        }
        dueError("pointer 4", x, INVALID, () -> x.allocationOf(4));
        dueError("pointer -1", x, INVALID, () -> x.allocationOf(-1));
        BorrowStacks y = withSixtyPointers();
        dueQuestion("pointer 59 of sixty", y, 0, () -> y.allocationOf(59));
        dueError("pointer 60 of sixty", y, INVALID, () -> y.allocationOf(60));
    }

    @Says(in = "Promise 18: parent", text = "Returns the number of that pointer; NONE if the pointer was created by"
            + " allocate(); INVALID if there is no such pointer.")
    static void promise18Parent() {
        BorrowStacks x = withCells(1);
        x.reborrow(0, RAW, 0, 1, 0);
        x.allocate(1);
        x.reborrow(2, RAW, 0, 1, 0);
        x.reborrow(1, RAW, 0, 1, 0);
        int[] parents = {NONE, 0, NONE, 2, 1};
        for (int p = 0; p < 5; p++) {
            int pointer = p;
            dueQuestion("pointer " + p, x, parents[p], () -> x.parent(pointer));
        }
        dueError("pointer 5", x, INVALID, () -> x.parent(5));
        dueError("pointer -1", x, INVALID, () -> x.parent(-1));
        x.write(0, 0, 1);
        x.free(0);
        dueQuestion("removed and freed", x, 1, () -> x.parent(4));
        BorrowStacks y = withSixtyPointers();
        dueQuestion("pointer 59 of sixty", y, 0, () -> y.parent(59));
        dueError("pointer 60 of sixty", y, INVALID, () -> y.parent(60));
    }

    @Says(in = "Promise 19: liveCells", text = "Counts the cells at which a pointer has an item that is not DISABLED.")
    static void promise19LiveCells() {
        BorrowStacks x = withCells(8);
        dueQuestion("all eight", x, 8, () -> x.liveCells(0));
        x.reborrow(0, MUTABLE, 0, 8, 0);
        x.reborrow(1, SHARED, 7, 1, 0);
        x.reborrow(1, RAW, 2, 2, 0);
        dueQuestion("unique", x, 8, () -> x.liveCells(1));
        dueQuestion("read-only", x, 1, () -> x.liveCells(2));
        dueQuestion("raw", x, 2, () -> x.liveCells(3));
        x.read(0, 0);
        dueQuestion("one is disabled", x, 7, () -> x.liveCells(1));
        x.write(0, 7, 1);
        dueQuestion("one is removed", x, 6, () -> x.liveCells(1));
        dueQuestion("none is left", x, 0, () -> x.liveCells(2));
        dueQuestion("the first", x, 8, () -> x.liveCells(0));
    }

    @Says(in = "Promise 19: liveCells", text = "Returns the number of cells; 0 if the allocation has been freed;"
            + " INVALID if there is no such pointer.")
    static void promise19FreedAndInvalid() {
        BorrowStacks x = withCells(3);
        x.reborrow(0, RAW, 0, 3, 0);
        x.allocate(2);
        x.free(1);
        dueQuestion("freed", x, 0, () -> x.liveCells(0));
        dueQuestion("freed", x, 0, () -> x.liveCells(1));
        dueQuestion("not freed", x, 2, () -> x.liveCells(2));
        dueError("pointer 3", x, INVALID, () -> x.liveCells(3));
        dueError("pointer -1", x, INVALID, () -> x.liveCells(-1));
        BorrowStacks y = withSixtyPointers();
        dueQuestion("pointer 59 of sixty", y, 1, () -> y.liveCells(59));
        dueError("pointer 60 of sixty", y, INVALID, () -> y.liveCells(60));
    }

    @Says(in = "Promise 20: isFreed",
            text = "Returns 1 if it has been freed, otherwise 0; INVALID if there is no such allocation.")
    static void promise20IsFreed() {
        BorrowStacks x = new BorrowStacks();
        for (int i = 0; i < 10; i++) x.allocate(1);
        x.free(0);
        x.free(9);
        for (int i = 0; i < 10; i++) {
            int allocation = i;
            dueQuestion("allocation " + i, x, i == 0 || i == 9 ? 1 : 0, () -> x.isFreed(allocation));
        }
        dueError("allocation 10 of ten", x, INVALID, () -> x.isFreed(10));
        dueError("allocation -1", x, INVALID, () -> x.isFreed(-1));
        BorrowStacks y = withCells(1);
        y.reborrow(0, RAW, 0, 1, 0);
        dueError("a pointer is no allocation", y, INVALID, () -> y.isFreed(1));
    }

    @Says(in = "Promise 21: pointerCount", text = "Returns 0 to 60.")
    static void promise21PointerCount() {
        BorrowStacks x = new BorrowStacks();
        dueQuestion("none", x, 0, x::pointerCount);
        x.allocate(1);
        for (int i = 1; i < 60; i++) {
            due("so far", x.pointerCount(), i);
            x.reborrow(0, MUTABLE, 0, 1, 0);
        }
        dueQuestion("sixty", x, 60, x::pointerCount);
        x.reborrow(0, MUTABLE, 0, 1, 0);
        x.free(0);
        dueQuestion("still sixty", x, 60, x::pointerCount);
    }

    @Says(in = "Promise 22: callDepth", text = "Returns 0 to 5.")
    static void promise22CallDepth() {
        BorrowStacks x = new BorrowStacks();
        x.leaveCall();
        dueQuestion("none", x, 0, x::callDepth);
        for (int i = 1; i <= 5; i++) {
            x.enterCall();
            dueQuestion("so far", x, i, x::callDepth);
        }
        x.enterCall();
        dueQuestion("still five", x, 5, x::callDepth);
        x.leaveCall();
        dueQuestion("four", x, 4, x::callDepth);
    }

    // ---- Promises 23 to 26: violations and errors

    @Says(in = "Promise 23: violationCount", text = "Returns the number of violations so far.")
    static void promise23ViolationCount() {
        BorrowStacks x = withCells(2);
        dueQuestion("none", x, 0, x::violationCount);
        x.read(0, 2);
        x.leaveCall();
        x.reborrow(0, SHARED, 0, 1, 0);
        x.checkWrite(1, 0);
        dueQuestion("errors and questions are none", x, 0, x::violationCount);
        for (int i = 1; i <= 400; i++) {
            x.write(1, 0, 1);
            if (i % 100 == 0) dueQuestion("so far", x, i, x::violationCount);
        }
    }

    @Says(in = "Promise 24: violationKind", text = "Returns NO_PERMISSION, PROTECTED or FREED; 0 if there was no violation.")
    static void promise24ViolationKind() {
        BorrowStacks x = withCells(2);
        x.read(7, 7);
        dueQuestion("none", x, 0, x::violationKind);
        x.reborrow(0, SHARED, 0, 1, 0);
        x.write(1, 0, 1);
        dueQuestion("NO_PERMISSION", x, NO_PERMISSION, x::violationKind);
        x.enterCall();
        x.reborrow(0, SHARED, 0, 1, 1);
        x.write(0, 0, 1);
        dueQuestion("PROTECTED", x, PROTECTED, x::violationKind);
        x.leaveCall();
        x.free(0);
        dueQuestion("a fine call keeps it", x, PROTECTED, x::violationKind);
        x.read(0, 0);
        dueQuestion("FREED", x, FREED, x::violationKind);
    }

    @Says(in = "Promise 25: violationCell", text = "Returns the index of the cell; NONE if there was no violation.")
    static void promise25ViolationCell() {
        BorrowStacks x = withCells(8);
        x.read(0, 8);
        dueQuestion("none", x, NONE, x::violationCell);
        x.reborrow(0, SHARED, 0, 8, 0);
        for (int c = 7; c >= 0; c--) {
            int cell = c;
            x.write(1, cell, 1);
            dueQuestion("cell " + cell, x, cell, x::violationCell);
        }
        x.write(1, 5, 1);
        x.read(0, 8);
        x.read(0, 2);
        dueQuestion("an error and a fine call keep it", x, 5, x::violationCell);
    }

    @Says(in = "Promise 26: errorCount", text = "Returns the number of failed calls of that kind;")
    static void promise26ErrorCount() {
        BorrowStacks x = new BorrowStacks();
        for (int i = 0; i < 3; i++) x.read(0, 0);
        for (int i = 0; i < 5; i++) x.leaveCall();
        for (int i = 0; i < 12; i++) x.enterCall();
        dueQuestion("INVALID", x, 3, () -> x.errorCount(0));
        dueQuestion("REJECTED", x, 5, () -> x.errorCount(1));
        dueQuestion("FULL", x, 7, () -> x.errorCount(2));
        BorrowStacks y = withCells(1);
        y.reborrow(0, SHARED, 0, 1, 0);
        y.write(1, 0, 1);
        y.removedByWrite(1, 0);
        y.parent(0);
        type(y, "x");
        y.runScript();
        for (int k = 0; k < 3; k++) {
            int kind = k;
            dueQuestion("UNDEFINED, NONE and a syntax error are none", y, 0, () -> y.errorCount(kind));
        }
    }

    @Says(in = "Promise 26: errorCount", text = "INVALID (which is counted, too) if kind is out of range.")
    static void promise26OutOfRange() {
        BorrowStacks x = new BorrowStacks();
        int count = 0;
        for (int kind : new int[] {3, -1, 4, -2, -4, MIN, MAX}) {
            due("kind " + kind, x.errorCount(kind), INVALID);
            count++;
            due("counted", x.errorCount(0), count);
        }
        due("not as REJECTED", x.errorCount(1), 0);
        due("not as FULL", x.errorCount(2), 0);
        dueError("nothing else changes", x, INVALID, () -> x.errorCount(-1));
    }

    @Says(in = "Promise 26: errorCount", text = "- `kind`: 0 for INVALID, 1 for REJECTED, 2 for FULL")
    static void promise26Kinds() {
        for (int kind = 0; kind < 3; kind++) {
            BorrowStacks x = new BorrowStacks();
            for (int i = 1; i <= 120; i++) x.append(' ');
            if (kind == 0) x.allocate(0);
            if (kind == 1) x.leaveCall();
            if (kind == 2) x.append(' ');
            for (int other = 0; other < 3; other++) due("kind " + other, x.errorCount(other), other == kind ? 1 : 0);
        }
    }

    // ---- the constants

    @Says(in = "SCRIPTS", text = "- `INVALID = -2`: An argument is out of range or names something that does not exist.")
    static void constantInvalid() {
        due("INVALID", BorrowStacks.INVALID, -2);
        due("out of range", new BorrowStacks().allocate(9), -2);
        due("does not exist", new BorrowStacks().free(0), -2);
    }

    @Says(in = "SCRIPTS", text = "- `REJECTED = -3`: The call stack does not allow the call.")
    static void constantRejected() {
        due("REJECTED", BorrowStacks.REJECTED, -3);
        due("leaveCall", new BorrowStacks().leaveCall(), -3);
        due("reborrow", withCells(1).reborrow(0, MUTABLE, 0, 1, 1), -3);
    }

    @Says(in = "SCRIPTS", text = "- `FULL = -4`: A capacity would be exceeded.")
    static void constantFull() {
        due("FULL", BorrowStacks.FULL, -4);
        due("reborrow", withFullStack().reborrow(0, RAW, 0, 1, 0), -4);
        due("allocate", withSixtyPointers().allocate(1), -4);
    }

    @Says(in = "SCRIPTS", text = "- `UNDEFINED = -5`: The operation is a violation of the aliasing rules.")
    static void constantUndefined() {
        due("UNDEFINED", BorrowStacks.UNDEFINED, -5);
        BorrowStacks x = withCells(1);
        x.free(0);
        due("read", x.read(0, 0), -5);
        due("FREED", BorrowStacks.FREED, x.violationKind());
        due("FREED", BorrowStacks.FREED, 3);
        due("NO_PERMISSION", BorrowStacks.NO_PERMISSION, 1);
        due("PROTECTED", BorrowStacks.PROTECTED, 2);
    }

    @Says(in = "SCRIPTS", text = "- `NONE = -1`: Returned where there is no such value.")
    static void constantNone() {
        due("NONE", BorrowStacks.NONE, -1);
        BorrowStacks x = withCells(1);
        due("parent", x.parent(0), -1);
        due("violationCell", x.violationCell(), -1);
        x.free(0);
        due("removedByWrite", x.removedByWrite(0, 0), -1);
    }

    // ---- Promise 30: digest

    @Says(in = "Promise 30: digest", text = "It starts with h = 12011.")
    static void promise30Start() {
        long h = 12011;
        for (int value : new int[] {0, 0, 0, 0, 0, 0, -1, 0, 0, 0}) h = 31 * h + value;
        due("a new object", new BorrowStacks().digest(), h);
    }

    @Says(in = "Promise 30: digest", text = "errorCount(0) to errorCount(2), the length of the text buffer,"
            + " violationCount(), violationKind(), violationCell(), callDepth();")
    static void promise30Counters() {
        BorrowStacks x = withCells(2);
        x.read(5, 0);
        for (int i = 0; i < 2; i++) x.leaveCall();
        for (int i = 0; i < 8; i++) x.enterCall();
        for (int i = 0; i < 7; i++) x.append('q');
        x.reborrow(0, MUTABLE, 1, 1, 1);
        for (int i = 0; i < 4; i++) x.read(0, 1);
        x.leaveCall();
        x.leaveCall();
        due("all the counters", x.digest(), hash(1, 2, 3, 7, 4, 2, 1, 3,
                1, 2, 0, 0, 1, 0, 0, 0, 0, 2, 0, 0, 0, 1, 0, 0,
                2, 0, -1, 2, 0, 0, 1));
    }

    @Says(in = "Promise 30: digest", text = "the number of allocations; for each allocation its number of cells,"
            + " isFreed(), and for each cell its value, stackSize(), and for each item from the bottom its tag,"
            + " permission and itemProtected();")
    static void promise30Allocations() {
        BorrowStacks x = layered();
        x.write(0, 1, 99);
        x.read(2, 0);
        x.allocate(1);
        x.write(5, 0, 8);
        x.free(5);
        due("two allocations", x.digest(), hash(0, 0, 0, 0, 0, 0, -1, 1,
                2,
                2, 0,
                0, 5, 0, 0, 0, 1, 0, 1, 2, 1, 0, 3, 3, 0, 4, 2, 0,
                99, 1, 0, 0, 0,
                1, 1,
                8, 1, 5, 0, 0,
                6, 0, -1, 2, 0, 0, 1, 0, 1, 1, 0, 2, 0, 0, 3, 1, 1, -1, 0));
        x.leaveCall();
        due("no longer protected", x.digest(), hash(0, 0, 0, 0, 0, 0, -1, 0,
                2,
                2, 0,
                0, 5, 0, 0, 0, 1, 0, 0, 2, 1, 0, 3, 3, 0, 4, 2, 0,
                99, 1, 0, 0, 0,
                1, 1,
                8, 1, 5, 0, 0,
                6, 0, -1, 2, 0, 0, 1, 0, 1, 1, 0, 2, 0, 0, 3, 1, 1, -1, 0));
    }

    @Says(in = "Promise 30: digest", text = "pointerCount(); for each pointer allocationOf(), parent() and liveCells().")
    static void promise30Pointers() {
        BorrowStacks x = withSixtyPointers();
        List<Long> values = new ArrayList<>(List.of(0L, 0L, 0L, 0L, 0L, 0L, -1L, 0L));
        values.addAll(List.of(1L, 1L, 0L, 0L, 2L, 0L, 0L, 0L, 59L, 0L, 0L));
        values.addAll(List.of(60L, 0L, -1L, 1L));
        for (int i = 1; i < 59; i++) values.addAll(List.of(0L, 0L, 0L));
        values.addAll(List.of(0L, 0L, 1L));
        due("sixty pointers", x.digest(), hash(values.stream().mapToLong(Long::longValue).toArray()));
    }

    @Says(in = "Promise 30: digest", text = "h becomes 31 * h + v (long arithmetic, overflow wraps).")
    static void promise30Wraps() {
        BorrowStacks x = new BorrowStacks();
        List<Long> values = new ArrayList<>(List.of(0L, 0L, 0L, 0L, 0L, 0L, -1L, 0L, 10L));
        for (long a = 0; a < 10; a++) {
            x.allocate(8);
            values.addAll(List.of(8L, 0L));
            for (long cell = 0; cell < 8; cell++) {
                x.write((int) a, (int) cell, (int) (10 * a + cell));
                values.addAll(List.of(10 * a + cell, 1L, a, 0L, 0L));
            }
        }
        values.add(10L);
        for (long a = 0; a < 10; a++) values.addAll(List.of(a, -1L, 8L));
        // Exact numbers, cut to 64 bits at the end, so that the test does not lean on the wrapping that it tests.
        BigInteger exact = BigInteger.valueOf(12011);
        for (long value : values) exact = exact.multiply(BigInteger.valueOf(31)).add(BigInteger.valueOf(value));
        due("eighty cells", x.digest(), exact.longValue());
    }

    @Says(in = "Promise 30: digest", text = "Returns a hash of the state.")
    static void promise30ChangesNothing() {
        BorrowStacks x = layered();
        long before = x.digest();
        for (int i = 0; i < 100; i++) due("again", x.digest(), before);
        x.append('e');
        x.clearText();
        due("the same state", x.digest(), before);
    }

    // ---- questions; they change nothing

    @Says(in = "Promise 9: checkRead", text = "---- questions; they change nothing")
    static void questionsChangeNothing() {
        BorrowStacks x = layered();
        for (int p = 0; p < 5; p++) {
            for (int c = 0; c < 2; c++) {
                long before = x.digest();
                x.checkRead(p, c);
                x.checkWrite(p, c);
                x.checkFree(p);
                x.removedByWrite(p, c);
                due("the state stays", x.digest(), before);
            }
        }
        dueStack("no item is removed or disabled", x, 0, 0, "0U 1U! 2W 3U 4R");
    }
}
