import java.io.IOException;

/** The boundary cases of 'What it is' and of the sections of 'Description' but SCRIPTS: a test a sentence. */
public final class DescriptionTest extends Sentences {
    public static void main(String[] args) throws IOException, IllegalAccessException {
        runAll(DescriptionTest.class);
    }

    // ---- What it is

    @Says(in = "What it is", text = "An object is used for at most 512 calls after it has been made;")
    static void use512Calls() {
        BorrowStacks x = new BorrowStacks();
        for (int i = 0; i < 511; i++) due("a refused call", x.leaveCall(), REJECTED);
        due("call 512", x.errorCount(1), 511);
    }

    @Says(in = "What it is", text = "An object is used for at most 512 calls after it has been made;")
    static void use512CallsWithManyEnteredCalls() {
        BorrowStacks x = withCells(1);
        type(x, "e;l;".repeat(29) + "e;");
        for (int i = 1; i <= 5; i++) {
            due("many entered calls", x.runScript(), 59);
            due("a protected item", x.reborrow(i - 1, MUTABLE, 0, 1, 1), i);
        }
        for (int i = 0; i < 300; i++) due("no room for a call", x.runScript(), -1000);
        dueStack("the active calls protect", x, 0, 0, "0U 1U! 2U! 3U! 4U! 5U!");
        x.leaveCall();
        dueStack("the ended one does not", x, 0, 0, "0U 1U! 2U! 3U! 4U! 5U");
    }

    @Says(in = "What it is", text = "what later calls answer is free.")
    static void useBeyond512Calls() {
        BorrowStacks x = withCells(1);
        type(x, "e;l;".repeat(30));
        // No answer is due, but no call may throw, and a question still changes nothing.
        for (int i = 0; i < 2000; i++) {
            x.runScript();
            x.reborrow(0, i % 3, 0, 1, 0);
            x.append(' ');
            x.enterCall();
        }
        dueQuestion("a question", x, x.pointerCount(), x::pointerCount);
    }

    // ---- MEMORY

    @Says(in = "MEMORY", text = "There can be up to 10 allocations, numbered from 0 in the order of allocation;")
    static void memoryTenAllocations() {
        BorrowStacks x = withCells(1);
        due("a pointer between", x.reborrow(0, SHARED, 0, 1, 0), 1);
        for (int i = 1; i < 10; i++) {
            due("allocate", x.allocate(i % 8 + 1), i + 1);
            due("its number", x.allocationOf(i + 1), i);
        }
        due("the last has two cells", x.stackSize(9, 1), 1);
        dueError("an eleventh", x, FULL, () -> x.allocate(1));
        dueError("an eleventh of eight cells", x, FULL, () -> x.allocate(8));
        dueError("there is no allocation 10", x, INVALID, () -> x.isFreed(10));
    }

    @Says(in = "MEMORY", text = "freed allocations count, too.")
    static void memoryFreedAllocationsCount() {
        BorrowStacks x = new BorrowStacks();
        for (int i = 0; i < 10; i++) {
            due("allocate", x.allocate(1), i);
            due("free", x.free(i), 1);
            due("its number", x.allocationOf(i), i);
        }
        dueError("all ten are freed", x, FULL, () -> x.allocate(1));
        for (int i = 0; i < 10; i++) due("still there", x.isFreed(i), 1);
    }

    @Says(in = "MEMORY", text = "An allocation has 1 to 8 cells, indexed from 0.")
    static void memoryOneToEightCells() {
        for (int cells = 1; cells <= 8; cells++) {
            BorrowStacks x = withCells(cells);
            int behind = cells;
            due("first cell", x.stackSize(0, 0), 1);
            due("last cell", x.read(0, behind - 1), 0);
            dueError("a cell behind the last", x, INVALID, () -> x.read(0, behind));
            dueError("a cell behind the last", x, INVALID, () -> x.stackSize(0, behind));
            dueError("a cell before the first", x, INVALID, () -> x.read(0, -1));
            due("free tells the cells", x.free(0), cells);
        }
        BorrowStacks y = new BorrowStacks();
        dueError("no cell", y, INVALID, () -> y.allocate(0));
        dueError("nine cells", y, INVALID, () -> y.allocate(9));
    }

    @Says(in = "MEMORY", text = "A cell holds a value from 0 to 99, initially 0.")
    static void memoryValues() {
        BorrowStacks x = withCells(8);
        for (int cell = 0; cell < 8; cell++) due("initially", x.read(0, cell), 0);
        due("the largest", x.write(0, 7, 99), 0);
        due("the largest is held", x.read(0, 7), 99);
        due("the smallest", x.write(0, 7, 0), 99);
        due("the smallest is held", x.read(0, 7), 0);
        x.write(0, 7, 50);
        dueError("too large", x, INVALID, () -> x.write(0, 7, 100));
        dueError("too small", x, INVALID, () -> x.write(0, 7, -1));
        due("the refused ones are not held", x.read(0, 7), 50);
        x.free(0);
        due("a later allocation", x.allocate(8), 1);
        for (int cell = 0; cell < 8; cell++) due("initially, behind a freed one", x.read(1, cell), 0);
    }

    @Says(in = "MEMORY", text = "There can be up to 60 pointers, numbered from 0 in the order of creation.")
    static void memorySixtyPointers() {
        BorrowStacks x = withSixtyPointers();
        due("sixty", x.pointerCount(), 60);
        due("the last", x.parent(59), 0);
        dueError("one more by reborrow", x, FULL, () -> x.reborrow(0, MUTABLE, 0, 1, 0));
        dueError("one more by allocate", x, FULL, () -> x.allocate(1));
        dueError("there is no pointer 60", x, INVALID, () -> x.parent(60));
        BorrowStacks y = withCells(1);
        due("reborrow, then", y.reborrow(0, RAW, 0, 1, 0), 1);
        due("allocate, then", y.allocate(1), 2);
        due("reborrow", y.reborrow(2, RAW, 0, 1, 0), 3);
    }

    @Says(in = "MEMORY", text = "There can be up to 60 pointers,")
    static void memorySixtyPointersWithTenAllocations() {
        BorrowStacks x = new BorrowStacks();
        for (int i = 0; i < 10; i++) due("allocate", x.allocate(1), i);
        for (int i = 10; i < 60; i++) due("reborrow", x.reborrow(i % 10, RAW, 0, 1, 0), i);
        dueError("one more", x, FULL, () -> x.reborrow(0, RAW, 0, 1, 0));
        for (int i = 0; i < 60; i++) due("its allocation", x.allocationOf(i), i % 10);
    }

    @Says(in = "MEMORY", text = "A pointer belongs to one allocation for ever.")
    static void memoryPointersStay() {
        BorrowStacks x = withCells(1);
        x.allocate(1);
        due("reborrow", x.reborrow(1, MUTABLE, 0, 1, 0), 2);
        x.write(1, 0, 1);
        due("its item is gone", x.liveCells(2), 0);
        due("it belongs as before", x.allocationOf(2), 1);
        x.free(1);
        due("freed", x.allocationOf(2), 1);
        x.allocate(1);
        due("a new allocation", x.allocationOf(2), 1);
        due("the first", x.allocationOf(0), 0);
    }

    @Says(in = "MEMORY", text = "The number of a pointer is also its tag.")
    static void memoryTagsAreNumbers() {
        BorrowStacks x = withSixtyPointers();
        due("the first", x.itemTag(0, 0, 0), 0);
        due("the last", x.itemTag(0, 0, 1), 59);
        BorrowStacks y = withCells(1);
        y.reborrow(0, SHARED, 0, 1, 0);
        due("allocate", y.allocate(1), 2);
        due("of the second allocation", y.itemTag(1, 0, 0), 2);
    }

    // ---- STACKS

    @Says(in = "STACKS", text = "The permissions are UNIQUE, SHARED_READ_WRITE, SHARED_READ_ONLY and DISABLED.")
    static void stacksPermissions() {
        due("UNIQUE", BorrowStacks.UNIQUE, 0);
        due("SHARED_READ_WRITE", BorrowStacks.SHARED_READ_WRITE, 1);
        due("SHARED_READ_ONLY", BorrowStacks.SHARED_READ_ONLY, 2);
        due("DISABLED", BorrowStacks.DISABLED, 3);
        BorrowStacks x = withCells(1);
        x.reborrow(0, BorrowStacks.MUTABLE, 0, 1, 0);
        x.reborrow(0, BorrowStacks.RAW, 0, 1, 0);
        x.reborrow(0, BorrowStacks.SHARED, 0, 1, 0);
        due("the bottom", x.itemPermission(0, 0, 0), BorrowStacks.UNIQUE);
        due("raw", x.itemPermission(0, 0, 1), BorrowStacks.SHARED_READ_WRITE);
        due("disabled", x.itemPermission(0, 0, 2), BorrowStacks.DISABLED);
        due("shared", x.itemPermission(0, 0, 3), BorrowStacks.SHARED_READ_ONLY);
    }

    @Says(in = "STACKS", text = "A stack can hold up to 12 items.")
    static void stacksTwelveItems() {
        BorrowStacks x = withFullStack();
        due("twelve", x.stackSize(0, 0), 12);
        dueStack("twelve", x, 0, 0, "0U 1U 2U 3U 4U 5U 6U 7U 8U 9U 10U 11U");
        for (int kind = MUTABLE; kind <= RAW; kind++) {
            int one = kind;
            dueError("a thirteenth of kind " + kind, x, FULL, () -> x.reborrow(11, one, 0, 1, 0));
        }
        due("no thirteenth", x.stackSize(0, 0), 12);
        due("the twelve are of use", x.write(11, 0, 1), 0);
    }

    @Says(in = "STACKS", text = "The bottom of the stack has index 0.")
    static void stacksBottomIsZero() {
        BorrowStacks x = withFullStack();
        due("bottom", x.itemTag(0, 0, 0), 0);
        due("top", x.itemTag(0, 0, 11), 11);
        dueError("below the bottom", x, INVALID, () -> x.itemTag(0, 0, -1));
        dueError("above the top", x, INVALID, () -> x.itemTag(0, 0, 12));
    }

    @Says(in = "STACKS", text = "Allocating memory creates a pointer; the stack of each new cell consists of one item"
            + " with the tag of that pointer, permission UNIQUE and no protector.")
    static void stacksOfNewCells() {
        BorrowStacks x = withCells(1);
        x.enterCall();
        x.reborrow(0, MUTABLE, 0, 1, 1);
        due("allocate in a call", x.allocate(8), 2);
        for (int cell = 0; cell < 8; cell++) dueStack("a new cell", x, 1, cell, "2U");
        due("free in the call", x.free(2), 8);
    }

    // ---- CALLS AND PROTECTORS

    @Says(in = "CALLS AND PROTECTORS",
            text = "Entering a call creates a new active call; leaving ends the innermost active call.")
    static void callsEndFromWithin() {
        BorrowStacks x = withCells(1);
        for (int i = 1; i <= 5; i++) {
            x.enterCall();
            x.reborrow(i - 1, MUTABLE, 0, 1, 1);
        }
        dueStack("five", x, 0, 0, "0U 1U! 2U! 3U! 4U! 5U!");
        x.leaveCall();
        dueStack("four", x, 0, 0, "0U 1U! 2U! 3U! 4U! 5U");
        x.enterCall();
        dueStack("a new call is not the ended one", x, 0, 0, "0U 1U! 2U! 3U! 4U! 5U");
        for (int i = 0; i < 4; i++) x.leaveCall();
        dueStack("one", x, 0, 0, "0U 1U! 2U 3U 4U 5U");
        x.leaveCall();
        dueStack("none", x, 0, 0, "0U 1U 2U 3U 4U 5U");
    }

    @Says(in = "CALLS AND PROTECTORS", text = "At most 5 calls can be active.")
    static void callsAtMostFive() {
        BorrowStacks x = new BorrowStacks();
        for (int i = 1; i <= 5; i++) due("enter", x.enterCall(), i);
        dueError("a sixth", x, FULL, x::enterCall);
        due("leave", x.leaveCall(), 4);
        due("room again", x.enterCall(), 5);
        dueError("a sixth again", x, FULL, x::enterCall);
    }

    @Says(in = "CALLS AND PROTECTORS",
            text = "An item may be protected by the call that was the innermost one when the item was created.")
    static void callsInnermostProtects() {
        BorrowStacks x = withCells(1);
        x.enterCall();
        x.enterCall();
        x.reborrow(0, MUTABLE, 0, 1, 1);
        x.enterCall();
        dueStack("a call entered later", x, 0, 0, "0U 1U!");
        x.leaveCall();
        dueStack("it is left", x, 0, 0, "0U 1U!");
        x.leaveCall();
        dueStack("the outer call does not protect", x, 0, 0, "0U 1U");
        due("the outer one is active", x.callDepth(), 1);
    }

    @Says(in = "CALLS AND PROTECTORS", text = "An item may be protected")
    static void callsItemsWithoutProtector() {
        BorrowStacks x = withCells(1);
        x.enterCall();
        x.reborrow(0, MUTABLE, 0, 1, 0);
        dueStack("a call is active, but nobody asked", x, 0, 0, "0U 1U");
        due("it may go", x.write(0, 0, 1), 0);
    }

    @Says(in = "CALLS AND PROTECTORS", text = "The item is protected as long as that call is active.")
    static void callsProtectWhileActive() {
        BorrowStacks x = withCells(1);
        x.enterCall();
        x.reborrow(0, MUTABLE, 0, 1, 1);
        for (int i = 0; i < 4; i++) x.enterCall();
        dueViolation("five calls deep", x, PROTECTED, 0, () -> x.write(0, 0, 1));
        for (int i = 0; i < 4; i++) x.leaveCall();
        dueViolation("still active", x, PROTECTED, 0, () -> x.write(0, 0, 1));
        x.leaveCall();
        due("itemProtected", x.itemProtected(0, 0, 1), 0);
        for (int i = 0; i < 5; i++) x.enterCall();
        due("other calls", x.itemProtected(0, 0, 1), 0);
        due("it may go", x.write(0, 0, 1), 0);
        dueStack("it is gone", x, 0, 0, "0U");
    }

    // ---- ACCESSES

    @Says(in = "ACCESSES",
            text = "the granting item is the topmost item with tag t whose permission is not DISABLED. "
            + "If there is none, the access is a violation of kind NO_PERMISSION.")
    static void readWithoutGrantingItem() {
        BorrowStacks x = withCells(2);
        x.reborrow(0, MUTABLE, 0, 1, 0);
        x.reborrow(1, RAW, 0, 1, 0);
        x.reborrow(2, SHARED, 0, 1, 0);
        dueStack("before", x, 0, 0, "0U 1U 2W 3R");
        due("SHARED_READ_ONLY grants", x.read(3, 0), 0);
        due("SHARED_READ_WRITE grants", x.read(2, 0), 0);
        due("UNIQUE grants", x.read(1, 0), 0);
        dueViolation("no item at this cell", x, NO_PERMISSION, 1, () -> x.read(1, 1));
        due("UNIQUE grants at the bottom", x.read(0, 0), 0);
        dueStack("one is disabled", x, 0, 0, "0U 1D 2W 3R");
        dueViolation("DISABLED does not grant", x, NO_PERMISSION, 0, () -> x.read(1, 0));
        x.write(0, 0, 1);
        dueViolation("the item is gone", x, NO_PERMISSION, 0, () -> x.read(3, 0));
    }

    @Says(in = "ACCESSES",
            text = "Otherwise each item above the granting item whose permission is UNIQUE gets the permission DISABLED.")
    static void readDisablesUniqueItemsAbove() {
        BorrowStacks x = withCells(2);
        x.reborrow(0, MUTABLE, 0, 2, 0);
        x.reborrow(1, MUTABLE, 0, 2, 0);
        x.reborrow(2, RAW, 0, 2, 0);
        x.reborrow(3, MUTABLE, 0, 2, 0);
        x.reborrow(4, SHARED, 0, 2, 0);
        dueStack("before", x, 0, 0, "0U 1U 2U 3W 4U 5R");
        x.read(5, 0);
        dueStack("nothing is above the top", x, 0, 0, "0U 1U 2U 3W 4U 5R");
        x.read(4, 0);
        dueStack("the granting item stays", x, 0, 0, "0U 1U 2U 3W 4U 5R");
        x.read(1, 0);
        dueStack("each UNIQUE one above, and none below", x, 0, 0, "0U 1U 2D 3W 4D 5R");
        x.read(3, 0);
        dueStack("DISABLED stays", x, 0, 0, "0U 1U 2D 3W 4D 5R");
        x.read(0, 0);
        dueStack("the next one", x, 0, 0, "0U 1D 2D 3W 4D 5R");
        dueStack("another cell stays", x, 0, 1, "0U 1U 2U 3W 4U 5R");
    }

    @Says(in = "ACCESSES", text = "If one of these items is protected, the access is a violation of kind PROTECTED.")
    static void readOfProtectedUniqueItems() {
        BorrowStacks x = withCells(2);
        x.reborrow(0, MUTABLE, 0, 2, 0);
        x.enterCall();
        x.reborrow(1, MUTABLE, 0, 1, 1);
        x.reborrow(2, MUTABLE, 0, 1, 0);
        dueStack("before", x, 0, 0, "0U 1U 2U! 3U");
        dueViolation("a protected one above", x, PROTECTED, 0, () -> x.read(0, 0));
        dueViolation("directly above", x, PROTECTED, 0, () -> x.read(1, 0));
        due("the granting item is protected", x.read(2, 0), 0);
        dueStack("the upper one", x, 0, 0, "0U 1U 2U! 3D");
        due("another cell", x.read(0, 1), 0);
        x.leaveCall();
        due("no longer protected", x.read(0, 0), 0);
        dueStack("all", x, 0, 0, "0U 1D 2D 3D");
    }

    @Says(in = "ACCESSES", text = "If one of these items is protected,")
    static void readOfOtherProtectedItems() {
        BorrowStacks x = withCells(1);
        x.enterCall();
        x.reborrow(0, MUTABLE, 0, 1, 1);
        x.reborrow(1, RAW, 0, 1, 1);
        x.reborrow(2, SHARED, 0, 1, 1);
        x.reborrow(2, SHARED, 0, 1, 0);
        dueStack("before", x, 0, 0, "0U 1U! 2W! 3R! 4R");
        due("protected, but not UNIQUE", x.read(1, 0), 0);
        due("protected ones below", x.read(4, 0), 0);
        dueStack("behind", x, 0, 0, "0U 1U! 2W! 3R! 4R");
    }

    @Says(in = "ACCESSES",
            text = "the granting item is the topmost item with tag t whose permission is UNIQUE or SHARED_READ_WRITE. "
            + "If there is none, the access is a violation of kind NO_PERMISSION.")
    static void writeWithoutGrantingItem() {
        BorrowStacks x = withCells(2);
        x.reborrow(0, MUTABLE, 0, 1, 0);
        x.reborrow(1, RAW, 0, 1, 0);
        x.reborrow(2, SHARED, 0, 1, 0);
        dueViolation("SHARED_READ_ONLY does not grant", x, NO_PERMISSION, 0, () -> x.write(3, 0, 5));
        dueViolation("no item at this cell", x, NO_PERMISSION, 1, () -> x.write(1, 1, 5));
        due("SHARED_READ_WRITE grants", x.write(2, 0, 5), 0);
        due("UNIQUE grants", x.write(1, 0, 6), 5);
        dueViolation("the item is gone", x, NO_PERMISSION, 0, () -> x.write(2, 0, 7));
        x.read(0, 0);
        dueStack("disabled", x, 0, 0, "0U 1D");
        dueViolation("DISABLED does not grant", x, NO_PERMISSION, 0, () -> x.write(1, 0, 7));
    }

    @Says(in = "ACCESSES", text = "If the granting item is UNIQUE, all items above it are removed.")
    static void writeThroughUnique() {
        BorrowStacks x = withCells(2);
        x.reborrow(0, MUTABLE, 0, 2, 0);
        x.reborrow(1, RAW, 0, 2, 0);
        x.reborrow(2, MUTABLE, 0, 2, 0);
        x.reborrow(2, SHARED, 0, 2, 0);
        dueStack("before", x, 0, 0, "0U 1U 2W 3D 4R");
        x.write(1, 0, 1);
        dueStack("raw ones directly above go, too", x, 0, 0, "0U 1U");
        x.write(1, 0, 1);
        dueStack("nothing is above", x, 0, 0, "0U 1U");
        x.write(0, 0, 1);
        dueStack("to the bottom", x, 0, 0, "0U");
        dueStack("another cell stays", x, 0, 1, "0U 1U 2W 3D 4R");
        BorrowStacks y = withFullStack();
        y.write(0, 0, 1);
        dueStack("eleven at once", y, 0, 0, "0U");
    }

    @Says(in = "ACCESSES", text = "If it is SHARED_READ_WRITE, the consecutive SHARED_READ_WRITE items directly above"
            + " it stay, and all items above these are removed.")
    static void writeThroughRaw() {
        BorrowStacks x = withCells(1);
        x.reborrow(0, RAW, 0, 1, 0);
        x.reborrow(1, RAW, 0, 1, 0);
        x.reborrow(2, RAW, 0, 1, 0);
        x.write(1, 0, 1);
        dueStack("all above are raw", x, 0, 0, "0U 1W 2W 3W");
        x.reborrow(3, MUTABLE, 0, 1, 0);
        x.reborrow(4, RAW, 0, 1, 0);
        dueStack("another raw one further up", x, 0, 0, "0U 1W 2W 3W 4U 5W");
        due("it would remove", x.removedByWrite(1, 0), 2);
        x.write(2, 0, 1);
        dueStack("up to the first other item", x, 0, 0, "0U 1W 2W 3W");
        x.reborrow(3, MUTABLE, 0, 1, 0);
        x.write(3, 0, 1);
        dueStack("no raw one is above", x, 0, 0, "0U 1W 2W 3W");
        x.reborrow(3, SHARED, 0, 1, 0);
        x.write(1, 0, 1);
        dueStack("a read-only one goes", x, 0, 0, "0U 1W 2W 3W");
        x.reborrow(3, MUTABLE, 0, 1, 0);
        x.read(1, 0);
        x.write(1, 0, 1);
        dueStack("a disabled one goes", x, 0, 0, "0U 1W 2W 3W");
    }

    @Says(in = "ACCESSES",
            text = "If one of the items to be removed is protected, the access is a violation of kind PROTECTED.")
    static void writeOverProtectedItems() {
        for (int kind = MUTABLE; kind <= RAW; kind++) {
            BorrowStacks x = withCells(1);
            x.enterCall();
            x.reborrow(0, kind, 0, 1, 1);
            dueViolation("over a protected item of kind " + kind, x, PROTECTED, 0, () -> x.write(0, 0, 1));
            x.leaveCall();
            due("no longer protected", x.write(0, 0, 1), 0);
            dueStack("gone", x, 0, 0, "0U");
        }
        BorrowStacks y = withCells(1);
        y.enterCall();
        y.reborrow(0, MUTABLE, 0, 1, 1);
        y.reborrow(1, RAW, 0, 1, 1);
        y.reborrow(2, RAW, 0, 1, 1);
        y.reborrow(3, MUTABLE, 0, 1, 0);
        dueStack("before", y, 0, 0, "0U 1U! 2W! 3W! 4U");
        due("protected ones that stay", y.write(2, 0, 1), 0);
        dueStack("behind", y, 0, 0, "0U 1U! 2W! 3W!");
        y.reborrow(3, SHARED, 0, 1, 0);
        y.reborrow(3, SHARED, 0, 1, 1);
        dueViolation("only the topmost is protected", y, PROTECTED, 0, () -> y.write(2, 0, 1));
        dueViolation("the lowest of those that go is", y, PROTECTED, 0, () -> y.write(1, 0, 1));
    }

    // ---- REBORROWS

    @Says(in = "REBORROWS", text = "There are three kinds:")
    static void reborrowKinds() {
        due("MUTABLE", BorrowStacks.MUTABLE, 0);
        due("SHARED", BorrowStacks.SHARED, 1);
        due("RAW", BorrowStacks.RAW, 2);
        BorrowStacks x = withCells(1);
        dueError("below the first", x, INVALID, () -> x.reborrow(0, -1, 0, 1, 0));
        dueError("a fourth", x, INVALID, () -> x.reborrow(0, 3, 0, 1, 0));
    }

    @Says(in = "REBORROWS",
            text = "A reborrow creates a new pointer from a given pointer for a range of cells of its allocation.")
    static void reborrowWithinItsAllocation() {
        BorrowStacks x = withCells(2);
        x.allocate(8);
        x.reborrow(0, RAW, 0, 1, 0);
        dueError("the other allocation has more cells", x, INVALID, () -> x.reborrow(0, RAW, 0, 3, 0));
        dueError("the third cell", x, INVALID, () -> x.reborrow(2, RAW, 2, 1, 0));
        due("all cells of the other", x.reborrow(1, RAW, 0, 8, 0), 3);
        dueViolation("a range beyond the pointer's own", x, NO_PERMISSION, 1, () -> x.reborrow(2, RAW, 0, 2, 0));
        due("its own range", x.reborrow(2, RAW, 0, 1, 0), 4);
        due("parent", x.parent(4), 2);
    }

    @Says(in = "REBORROWS", text = "The new pointer belongs to the same allocation, but only the stacks of the cells in"
            + " the range get an item with its tag.")
    static void reborrowOnlyTheRange() {
        for (int kind = MUTABLE; kind <= RAW; kind++) {
            BorrowStacks x = withCells(1);
            x.allocate(8);
            due("a range in the middle", x.reborrow(1, kind, 2, 3, 0), 2);
            due("a range at the start", x.reborrow(1, kind, 0, 1, 0), 3);
            due("a range at the end", x.reborrow(1, kind, 7, 1, 0), 4);
            for (int pointer = 2; pointer <= 4; pointer++) due("allocation", x.allocationOf(pointer), 1);
            int[] tags = {3, NONE, 2, 2, 2, NONE, NONE, 4};
            String letter = "URW".substring(kind, kind + 1);
            for (int cell = 0; cell < 8; cell++) {
                String due = tags[cell] == NONE ? "1U" : "1U " + tags[cell] + letter;
                dueStack("cell " + cell + " of kind " + kind, x, 1, cell, due);
            }
            dueStack("the other allocation", x, 0, 0, "0U");
        }
    }

    @Says(in = "REBORROWS", text = "MUTABLE: a write access with the tag of the given pointer is performed; then an item"
            + " with permission UNIQUE is put on top of the stack.")
    static void reborrowMutable() {
        BorrowStacks x = withCells(1);
        x.write(0, 0, 9);
        x.reborrow(0, RAW, 0, 1, 0);
        x.reborrow(1, RAW, 0, 1, 0);
        x.reborrow(2, SHARED, 0, 1, 0);
        due("of raw", x.reborrow(1, MUTABLE, 0, 1, 0), 4);
        dueStack("raw ones stay below it", x, 0, 0, "0U 1W 2W 4U");
        dueViolation("of a removed item", x, NO_PERMISSION, 0, () -> x.reborrow(3, MUTABLE, 0, 1, 0));
        due("of unique", x.reborrow(0, MUTABLE, 0, 1, 0), 5);
        dueStack("the others went", x, 0, 0, "0U 5U");
        due("the value stays", x.read(5, 0), 9);
        x.reborrow(5, SHARED, 0, 1, 0);
        dueViolation("of read-only", x, NO_PERMISSION, 0, () -> x.reborrow(6, MUTABLE, 0, 1, 0));
        x.enterCall();
        x.reborrow(5, SHARED, 0, 1, 1);
        dueViolation("over a protected item", x, PROTECTED, 0, () -> x.reborrow(5, MUTABLE, 0, 1, 0));
        x.leaveCall();
        x.read(0, 0);
        dueViolation("of a disabled one", x, NO_PERMISSION, 0, () -> x.reborrow(5, MUTABLE, 0, 1, 0));
    }

    @Says(in = "REBORROWS", text = "SHARED: a read access with the tag of the given pointer is performed; then an item"
            + " with permission SHARED_READ_ONLY is put on top of the stack.")
    static void reborrowShared() {
        BorrowStacks x = withCells(1);
        x.reborrow(0, MUTABLE, 0, 1, 0);
        x.reborrow(1, RAW, 0, 1, 0);
        x.reborrow(2, MUTABLE, 0, 1, 0);
        due("of raw", x.reborrow(2, SHARED, 0, 1, 0), 4);
        dueStack("unique ones above are disabled", x, 0, 0, "0U 1U 2W 3D 4R");
        dueViolation("of a disabled one", x, NO_PERMISSION, 0, () -> x.reborrow(3, SHARED, 0, 1, 0));
        due("of read-only", x.reborrow(4, SHARED, 0, 1, 0), 5);
        due("of unique", x.reborrow(0, SHARED, 0, 1, 0), 6);
        dueStack("on top", x, 0, 0, "0U 1D 2W 3D 4R 5R 6R");
        x.enterCall();
        x.reborrow(0, MUTABLE, 0, 1, 1);
        dueStack("protected", x, 0, 0, "0U 7U!");
        dueViolation("over a protected unique one", x, PROTECTED, 0, () -> x.reborrow(0, SHARED, 0, 1, 0));
    }

    @Says(in = "REBORROWS", text = "RAW: the granting item is determined as for a write access (violation NO_PERMISSION"
            + " if there is none), but no item is removed.")
    static void reborrowRaw() {
        BorrowStacks x = withCells(2);
        x.reborrow(0, MUTABLE, 0, 1, 0);
        x.enterCall();
        x.reborrow(1, MUTABLE, 0, 1, 1);
        x.reborrow(2, SHARED, 0, 1, 1);
        dueViolation("of read-only", x, NO_PERMISSION, 0, () -> x.reborrow(3, RAW, 0, 1, 0));
        dueViolation("of no item", x, NO_PERMISSION, 1, () -> x.reborrow(1, RAW, 1, 1, 0));
        due("protected items above are no matter", x.reborrow(0, RAW, 0, 1, 0), 4);
        dueStack("none is removed or disabled", x, 0, 0, "0U 4W 1U 2U! 3R!");
        x.leaveCall();
        x.read(0, 0);
        dueStack("disabled", x, 0, 0, "0U 4W 1D 2D 3R");
        dueViolation("of a disabled one", x, NO_PERMISSION, 0, () -> x.reborrow(1, RAW, 0, 1, 0));
        dueViolations("nothing else", x, 3, NO_PERMISSION, 0);
    }

    @Says(in = "REBORROWS", text = "An item with permission SHARED_READ_WRITE is inserted directly above the granting"
            + " item if that is UNIQUE;")
    static void reborrowRawOfUnique() {
        BorrowStacks x = withCells(1);
        due("at the top", x.reborrow(0, RAW, 0, 1, 0), 1);
        dueStack("at the top", x, 0, 0, "0U 1W");
        due("below a raw one", x.reborrow(0, RAW, 0, 1, 0), 2);
        dueStack("below a raw one", x, 0, 0, "0U 2W 1W");
        x.enterCall();
        due("a protector", x.reborrow(0, RAW, 0, 1, 1), 3);
        dueStack("the others keep their places' protectors", x, 0, 0, "0U 3W! 2W 1W");
        for (int i = 4; i < 12; i++) due("filling", x.reborrow(0, RAW, 0, 1, 0), i);
        dueStack("twelve", x, 0, 0, "0U 11W 10W 9W 8W 7W 6W 5W 4W 3W! 2W 1W");
        dueError("a thirteenth at the bottom", x, FULL, () -> x.reborrow(0, RAW, 0, 1, 0));
    }

    @Says(in = "REBORROWS", text = "if it is SHARED_READ_WRITE, the new item is inserted above the consecutive"
            + " SHARED_READ_WRITE items that are directly above it.")
    static void reborrowRawOfRaw() {
        BorrowStacks x = withCells(1);
        x.reborrow(0, RAW, 0, 1, 0);
        due("at the top", x.reborrow(1, RAW, 0, 1, 0), 2);
        dueStack("at the top", x, 0, 0, "0U 1W 2W");
        due("of the lower one", x.reborrow(1, RAW, 0, 1, 0), 3);
        dueStack("above the consecutive ones", x, 0, 0, "0U 1W 2W 3W");
        x.reborrow(3, MUTABLE, 0, 1, 0);
        x.reborrow(4, RAW, 0, 1, 0);
        due("below another item", x.reborrow(1, RAW, 0, 1, 0), 6);
        dueStack("not above the raw one further up", x, 0, 0, "0U 1W 2W 3W 6W 4U 5W");
        due("of the last of them", x.reborrow(6, RAW, 0, 1, 0), 7);
        dueStack("directly above it", x, 0, 0, "0U 1W 2W 3W 6W 7W 4U 5W");
        x.read(1, 0);
        due("below a disabled item", x.reborrow(2, RAW, 0, 1, 0), 8);
        dueStack("below a disabled item", x, 0, 0, "0U 1W 2W 3W 6W 7W 8W 4D 5W");
    }

    // ---- FREEING

    @Says(in = "FREEING", text = "Freeing through a pointer is possible if, at each cell of its allocation, a write"
            + " access with its tag would be no violation")
    static void freeingNeedsWriteAccessEverywhere() {
        BorrowStacks x = withCells(8);
        due("all cells", x.reborrow(0, RAW, 0, 8, 0), 1);
        due("all but the last", x.reborrow(1, RAW, 0, 7, 0), 2);
        due("all but the first", x.reborrow(1, RAW, 1, 7, 0), 3);
        due("read-only", x.reborrow(1, SHARED, 0, 8, 0), 4);
        dueViolation("not at the last", x, NO_PERMISSION, 7, () -> x.free(2));
        dueViolation("not at the first", x, NO_PERMISSION, 0, () -> x.free(3));
        dueViolation("read-only", x, NO_PERMISSION, 0, () -> x.free(4));
        due("raw at all cells", x.free(1), 8);
        BorrowStacks y = withCells(2);
        y.reborrow(0, MUTABLE, 0, 2, 0);
        y.read(0, 1);
        dueViolation("disabled at the last", y, NO_PERMISSION, 1, () -> y.free(1));
        due("another pointer", y.free(0), 2);
        BorrowStacks z = withCells(1);
        z.allocate(2);
        due("the other allocation is no matter", z.free(0), 1);
        due("it is not freed", z.isFreed(1), 0);
    }

    @Says(in = "FREEING", text = "and no item of the whole stack is protected.")
    static void freeingNeedsNoProtectedItem() {
        BorrowStacks x = withCells(3);
        x.enterCall();
        x.reborrow(0, MUTABLE, 2, 1, 1);
        x.reborrow(1, RAW, 2, 1, 0);
        x.reborrow(2, RAW, 2, 1, 1);
        dueViolation("above the granting item", x, PROTECTED, 2, () -> x.free(0));
        BorrowStacks y = withCells(1);
        y.enterCall();
        y.reborrow(0, MUTABLE, 0, 1, 1);
        y.reborrow(1, MUTABLE, 0, 1, 0);
        due("a write would be none", y.checkWrite(2, 0), 0);
        dueViolation("below the granting item", y, PROTECTED, 0, () -> y.free(2));
        dueViolation("the granting item itself", y, PROTECTED, 0, () -> y.free(1));
        BorrowStacks z = withCells(1);
        z.reborrow(0, RAW, 0, 1, 0);
        z.enterCall();
        z.reborrow(1, RAW, 0, 1, 1);
        due("a write would keep it", z.checkWrite(1, 0), 0);
        dueViolation("an item that a write would keep", z, PROTECTED, 0, () -> z.free(1));
        z.leaveCall();
        due("no longer protected", z.free(1), 1);
    }

    @Says(in = "FREEING", text = "For each cell the write access is considered first (its violation is told), then the"
            + " protection of all items (violation PROTECTED).")
    static void freeingTellsTheWriteAccessFirst() {
        BorrowStacks x = withCells(2);
        x.enterCall();
        x.reborrow(0, SHARED, 0, 1, 1);
        x.reborrow(0, RAW, 1, 1, 0);
        dueViolation("read-only and protected at one cell", x, NO_PERMISSION, 0, () -> x.free(1));
        dueViolation("no item, and a protected one", x, NO_PERMISSION, 0, () -> x.free(2));
        BorrowStacks y = withCells(2);
        y.reborrow(0, RAW, 0, 1, 0);
        y.enterCall();
        y.reborrow(1, RAW, 0, 1, 1);
        dueViolation("protected at 0 comes before no item at 1", y, PROTECTED, 0, () -> y.free(1));
        due("checkFree tells the same", y.checkFree(1), PROTECTED);
        y.leaveCall();
        dueViolation("then the next cell", y, NO_PERMISSION, 1, () -> y.free(1));
    }

    @Says(in = "FREEING", text = "The stacks of a freed allocation stay as they were before it was freed.")
    static void freeingKeepsTheStacks() {
        BorrowStacks x = withCells(2);
        x.reborrow(0, MUTABLE, 0, 2, 0);
        x.reborrow(1, RAW, 0, 1, 0);
        x.enterCall();
        x.reborrow(0, SHARED, 0, 1, 1);
        x.leaveCall();
        due("free", x.free(0), 2);
        dueStack("cell 0", x, 0, 0, "0U 1D 2W 3R");
        dueStack("cell 1", x, 0, 1, "0U 1U");
        x.enterCall();
        dueStack("a later call protects none of them", x, 0, 0, "0U 1D 2W 3R");
        due("index 4", x.itemTag(0, 0, 4), INVALID);
    }

    // ---- VIOLATIONS

    @Says(in = "VIOLATIONS",
            text = "The method returns UNDEFINED and the memory, the stacks and the pointers stay as they are.")
    static void violationsChangeNothing() {
        BorrowStacks x = withCells(4);
        x.write(0, 3, 77);
        x.reborrow(0, MUTABLE, 0, 4, 0);
        x.enterCall();
        x.reborrow(1, MUTABLE, 3, 1, 1);
        dueViolation("read", x, PROTECTED, 3, () -> x.read(0, 3));
        dueViolation("write", x, PROTECTED, 3, () -> x.write(0, 3, 5));
        for (int kind = MUTABLE; kind <= SHARED; kind++) {
            int one = kind;
            dueViolation("the last cell of a reborrow of kind " + kind, x, PROTECTED, 3,
                    () -> x.reborrow(0, one, 0, 4, 1));
        }
        dueViolation("the last cell of a raw reborrow", x, NO_PERMISSION, 2, () -> x.reborrow(2, RAW, 2, 2, 0));
        dueViolation("the last cell of a free", x, PROTECTED, 3, () -> x.free(0));
        for (int cell = 0; cell < 3; cell++) dueStack("cell " + cell, x, 0, cell, "0U 1U");
        dueStack("cell 3", x, 0, 3, "0U 1U 2U!");
        due("value", x.read(2, 3), 77);
        due("pointers", x.pointerCount(), 3);
        due("not freed", x.isFreed(0), 0);
    }

    @Says(in = "VIOLATIONS",
            text = "The interpreter remembers the kind and the cell of the latest violation, and counts violations.")
    static void violationsAreRemembered() {
        BorrowStacks x = withCells(3);
        dueViolations("none", x, 0, 0, NONE);
        x.reborrow(0, SHARED, 2, 1, 0);
        x.write(1, 2, 0);
        dueViolations("the first", x, 1, NO_PERMISSION, 2);
        x.write(1, 2, 0);
        dueViolations("the same again", x, 2, NO_PERMISSION, 2);
        x.enterCall();
        x.reborrow(0, MUTABLE, 1, 1, 1);
        x.read(0, 1);
        dueViolations("another", x, 3, PROTECTED, 1);
        x.read(0, 0);
        x.read(0, 9);
        x.checkRead(0, 1);
        x.checkWrite(0, 1);
        x.checkFree(0);
        x.removedByWrite(0, 1);
        dueViolations("a fine call, an error and questions are none", x, 3, PROTECTED, 1);
        x.leaveCall();
        x.leaveCall();
        x.free(0);
        x.free(0);
        dueViolations("the latest", x, 4, FREED, 0);
    }

    @Says(in = "VIOLATIONS", text = "Any access, reborrow or free through a pointer whose allocation has been freed is a"
            + " violation of kind FREED, told with the first cell concerned.")
    static void violationsOfFreedMemory() {
        BorrowStacks x = withCells(8);
        x.reborrow(0, SHARED, 5, 1, 0);
        x.free(0);
        dueViolation("read", x, FREED, 0, () -> x.read(0, 0));
        dueViolation("read of the last cell", x, FREED, 7, () -> x.read(0, 7));
        dueViolation("write", x, FREED, 6, () -> x.write(0, 6, 1));
        for (int kind = MUTABLE; kind <= RAW; kind++) {
            int one = kind;
            dueViolation("reborrow of kind " + kind, x, FREED, 3, () -> x.reborrow(0, one, 3, 5, 0));
            dueViolation("reborrow of all, kind " + kind, x, FREED, 0, () -> x.reborrow(0, one, 0, 8, 0));
        }
        dueViolation("free", x, FREED, 0, () -> x.free(0));
        dueViolation("FREED comes before NO_PERMISSION", x, FREED, 2, () -> x.write(1, 2, 1));
        dueViolation("through a pointer of one cell", x, FREED, 0, () -> x.free(1));
        x.allocate(1);
        dueViolation("a new allocation is no matter", x, FREED, 0, () -> x.read(0, 0));
    }

    @Says(in = "VIOLATIONS",
            text = "An operation on several cells is checked cell by cell with rising index; the first violation is told.")
    static void violationsFirstIsTold() {
        BorrowStacks x = withCells(5);
        x.reborrow(0, MUTABLE, 0, 4, 0);
        x.enterCall();
        x.reborrow(1, MUTABLE, 1, 1, 1);
        x.reborrow(1, MUTABLE, 3, 1, 1);
        dueViolation("1 comes before 3", x, PROTECTED, 1, () -> x.reborrow(0, MUTABLE, 0, 5, 0));
        dueViolation("3 is in the range", x, PROTECTED, 3, () -> x.reborrow(0, SHARED, 2, 3, 0));
        dueViolation("3 comes before 4, which has no item", x, PROTECTED, 3, () -> x.reborrow(1, MUTABLE, 2, 3, 0));
        dueViolation("raw does not mind 3", x, NO_PERMISSION, 4, () -> x.reborrow(1, RAW, 2, 3, 0));
        dueViolation("0 has no item", x, NO_PERMISSION, 0, () -> x.reborrow(2, SHARED, 0, 5, 0));
        dueViolation("free", x, PROTECTED, 1, () -> x.free(0));
        dueViolation("free through 1: protected at 1, no item at 4", x, PROTECTED, 1, () -> x.free(1));
    }

    // ---- ERRORS

    @Says(in = "ERRORS", text = "A method that fails with an error code changes nothing except the counter of that"
            + " error, which grows by 1.")
    static void errorsChangeNothingElse() {
        BorrowStacks x = withFullStack();
        x.write(11, 0, 31);
        x.append('a');
        dueError("REJECTED leaveCall", x, REJECTED, x::leaveCall);
        dueError("REJECTED reborrow", x, REJECTED, () -> x.reborrow(11, SHARED, 0, 1, 1));
        dueError("FULL reborrow, which would disable", x, FULL, () -> x.reborrow(0, SHARED, 0, 1, 0));
        dueError("FULL reborrow", x, FULL, () -> x.reborrow(0, RAW, 0, 1, 0));
        dueError("INVALID write", x, INVALID, () -> x.write(0, 0, 100));
        dueError("INVALID append", x, INVALID, () -> x.append(128));
        due("stack", x.stackSize(0, 0), 12);
        due("value", x.read(11, 0), 31);
        due("text", x.append('a'), 2);
        BorrowStacks y = withSixtyPointers();
        dueError("FULL reborrow, which would remove", y, FULL, () -> y.reborrow(0, MUTABLE, 0, 1, 0));
        dueStack("it stays", y, 0, 0, "0U 59U");
    }

    @Says(in = "ERRORS", text = "INVALID means that an argument is out of range or names something that does not exist.")
    static void errorsInvalid() {
        int[] far = {MIN, MIN + 1, -1, 60, 100, 128, 256, MAX - 1, MAX};
        for (int n : far) {
            BorrowStacks x = withCells(2);
            dueError("allocate " + n, x, INVALID, () -> x.allocate(n));
            dueError("read of pointer " + n, x, INVALID, () -> x.read(n, 0));
            dueError("read of cell " + n, x, INVALID, () -> x.read(0, n));
            dueError("write of pointer " + n, x, INVALID, () -> x.write(n, 0, 0));
            dueError("write of cell " + n, x, INVALID, () -> x.write(0, n, 0));
            dueError("reborrow of pointer " + n, x, INVALID, () -> x.reborrow(n, 0, 0, 1, 0));
            dueError("reborrow of kind " + n, x, INVALID, () -> x.reborrow(0, n, 0, 1, 0));
            dueError("reborrow from " + n, x, INVALID, () -> x.reborrow(0, 0, n, 1, 0));
            dueError("reborrow of count " + n, x, INVALID, () -> x.reborrow(0, 0, 1, n, 0));
            dueError("reborrow with protect " + n, x, INVALID, () -> x.reborrow(0, 0, 0, 1, n));
            dueError("free " + n, x, INVALID, () -> x.free(n));
            dueError("checkRead of pointer " + n, x, INVALID, () -> x.checkRead(n, 0));
            dueError("checkRead of cell " + n, x, INVALID, () -> x.checkRead(0, n));
            dueError("checkWrite of pointer " + n, x, INVALID, () -> x.checkWrite(n, 0));
            dueError("checkWrite of cell " + n, x, INVALID, () -> x.checkWrite(0, n));
            dueError("checkFree " + n, x, INVALID, () -> x.checkFree(n));
            dueError("removedByWrite of pointer " + n, x, INVALID, () -> x.removedByWrite(n, 0));
            dueError("removedByWrite of cell " + n, x, INVALID, () -> x.removedByWrite(0, n));
            dueError("stackSize of allocation " + n, x, INVALID, () -> x.stackSize(n, 0));
            dueError("stackSize of cell " + n, x, INVALID, () -> x.stackSize(0, n));
            dueError("allocationOf " + n, x, INVALID, () -> x.allocationOf(n));
            dueError("parent " + n, x, INVALID, () -> x.parent(n));
            dueError("liveCells " + n, x, INVALID, () -> x.liveCells(n));
            dueError("isFreed " + n, x, INVALID, () -> x.isFreed(n));
            dueError("errorCount " + n, x, INVALID, () -> x.errorCount(n));
        }
    }

    @Says(in = "ERRORS", text = "INVALID means that an argument is out of range or names something that does not exist.")
    static void errorsInvalidItems() {
        int[] far = {MIN, -1, 1, 12, MAX};
        for (int n : far) {
            BorrowStacks x = withCells(1);
            dueError("itemTag of allocation " + n, x, INVALID, () -> x.itemTag(n, 0, 0));
            dueError("itemTag of cell " + n, x, INVALID, () -> x.itemTag(0, n, 0));
            dueError("itemTag of index " + n, x, INVALID, () -> x.itemTag(0, 0, n));
            dueError("itemPermission of allocation " + n, x, INVALID, () -> x.itemPermission(n, 0, 0));
            dueError("itemPermission of cell " + n, x, INVALID, () -> x.itemPermission(0, n, 0));
            dueError("itemPermission of index " + n, x, INVALID, () -> x.itemPermission(0, 0, n));
            dueError("itemProtected of allocation " + n, x, INVALID, () -> x.itemProtected(n, 0, 0));
            dueError("itemProtected of cell " + n, x, INVALID, () -> x.itemProtected(0, n, 0));
            dueError("itemProtected of index " + n, x, INVALID, () -> x.itemProtected(0, 0, n));
        }
    }

    @Says(in = "ERRORS", text = "REJECTED means that the call stack does not allow the call.")
    static void errorsRejected() {
        BorrowStacks x = withCells(1);
        dueError("no call to leave", x, REJECTED, x::leaveCall);
        dueError("no call to protect", x, REJECTED, () -> x.reborrow(0, RAW, 0, 1, 1));
        due("without a protector", x.reborrow(0, RAW, 0, 1, 0), 1);
        x.enterCall();
        due("a call to protect", x.reborrow(0, RAW, 0, 1, 1), 2);
        due("a call to leave", x.leaveCall(), 0);
        dueError("none again", x, REJECTED, x::leaveCall);
        dueError("none again", x, REJECTED, () -> x.reborrow(0, RAW, 0, 1, 1));
    }

    @Says(in = "ERRORS", text = "FULL means that a capacity would be exceeded.")
    static void errorsFull() {
        BorrowStacks x = new BorrowStacks();
        for (int i = 0; i < 10; i++) due("allocate", x.allocate(1), i);
        for (int i = 1; i <= 5; i++) due("enterCall", x.enterCall(), i);
        for (int i = 1; i <= 120; i++) due("append", x.append('e'), i);
        due("to the brim is no error", x.errorCount(2), 0);
        dueError("an eleventh allocation", x, FULL, () -> x.allocate(1));
        dueError("a sixth call", x, FULL, x::enterCall);
        dueError("a byte 121", x, FULL, () -> x.append('e'));
        BorrowStacks y = withFullStack();
        dueError("a thirteenth item", y, FULL, () -> y.reborrow(11, SHARED, 0, 1, 0));
        BorrowStacks z = withSixtyPointers();
        dueError("a pointer 61", z, FULL, () -> z.reborrow(0, SHARED, 0, 1, 0));
    }

    @Says(in = "ERRORS", text = "Errors are checked in this order: INVALID, REJECTED, violations, FULL.")
    static void errorsInOrder() {
        BorrowStacks x = withSixtyPointers();
        dueError("FULL", x, FULL, () -> x.reborrow(59, MUTABLE, 0, 1, 0));
        dueViolation("a violation before FULL", x, NO_PERMISSION, 0, () -> x.reborrow(1, MUTABLE, 0, 1, 0));
        dueError("REJECTED before FULL", x, REJECTED, () -> x.reborrow(59, MUTABLE, 0, 1, 1));
        dueError("REJECTED before a violation", x, REJECTED, () -> x.reborrow(1, MUTABLE, 0, 1, 1));
        dueError("INVALID before FULL", x, INVALID, () -> x.reborrow(59, 3, 0, 1, 0));
        dueError("INVALID before a violation", x, INVALID, () -> x.reborrow(1, MUTABLE, 0, 2, 0));
        dueError("INVALID before REJECTED", x, INVALID, () -> x.reborrow(59, MUTABLE, 0, 0, 1));
        dueError("INVALID before all", x, INVALID, () -> x.reborrow(1, MUTABLE, 1, 1, 1));
        dueError("INVALID kind before REJECTED", x, INVALID, () -> x.reborrow(1, -1, 0, 1, 1));
        dueError("INVALID pointer before REJECTED", x, INVALID, () -> x.reborrow(60, MUTABLE, 0, 1, 1));
        dueViolation("a write of a good value", x, NO_PERMISSION, 0, () -> x.write(1, 0, 0));
        dueError("a write of a wrong value", x, INVALID, () -> x.write(1, 0, 100));
        dueError("INVALID before FULL in allocate", x, INVALID, () -> x.allocate(9));
        x.free(59);
        dueViolation("FREED before FULL", x, FREED, 0, () -> x.reborrow(59, RAW, 0, 1, 0));
        dueError("REJECTED before FREED", x, REJECTED, () -> x.reborrow(59, RAW, 0, 1, 1));
        dueError("INVALID before FREED", x, INVALID, () -> x.read(59, 1));
    }

    @Says(in = "ERRORS", text = "Errors are checked in this order: INVALID, REJECTED, violations, FULL.")
    static void errorsViolationAtALaterCellBeforeFull() {
        BorrowStacks x = withCells(3);
        x.reborrow(0, RAW, 0, 2, 0);
        for (int i = 2; i <= 11; i++) due("filling cell 0", x.reborrow(1, RAW, 0, 1, 0), i);
        due("full", x.stackSize(0, 0), 12);
        dueViolation("cell 2 has no item", x, NO_PERMISSION, 2, () -> x.reborrow(1, RAW, 0, 3, 0));
        dueError("without cell 2", x, FULL, () -> x.reborrow(1, RAW, 0, 2, 0));
        dueStack("cell 1 stays", x, 0, 1, "0U 1W");
        due("without cell 0", x.reborrow(1, RAW, 1, 1, 0), 12);
    }
}
