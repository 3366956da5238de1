/** One method a promise: ordinary inputs, the edges that the document names, and wrong inputs. */
public final class PromiseTest extends Checks {
    public static void main(String[] args) {
        promise01NewObject();
        promise02Allocate();
        promise02AllocateWithSixtyPointers();
        promise03Read();
        promise03ReadDisables();
        promise04Write();
        promise04WriteThroughRaw();
        promise05ReborrowArguments();
        promise05ReborrowKinds();
        promise05RawPlaces();
        promise05ReborrowViolations();
        promise05ReborrowFullStack();
        promise05ReborrowFullPointers();
        promise05ErrorOrder();
        promise06Free();
        promise06FreeTellsFirstCell();
        promise07And08Calls();
        promise09CheckRead();
        promise10CheckWrite();
        promise11CheckFree();
        promise12RemovedByWrite();
        promise13To16Items();
        promise16ProtectorsEndWithTheirCall();
        promise17And18Pointers();
        promise19LiveCells();
        promise20IsFreed();
        promise21And22Counts();
        promise23To25Violations();
        promise26ErrorCount();
        promise27And28Text();
        promise29Syntax();
        promise29Execution();
        promise30Digest();
        questionsChangeNothing();
        endOfTest();
    }

    private static void promise01NewObject() {
        BorrowStacks x = new BorrowStacks();
        due("1 pointerCount", x.pointerCount(), 0);
        due("1 callDepth", x.callDepth(), 0);
        dueViolations("1", x, 0, 0, NONE);
        for (int kind = 0; kind < 3; kind++) due("1 errorCount", x.errorCount(kind), 0);
        due("1 clearText", x.clearText(), 0);
        due("1 isFreed", x.isFreed(0), INVALID);
        new BorrowStacks().allocate(1);
        due("1 objects are apart", x.pointerCount(), 0);
    }

    private static void promise02Allocate() {
        BorrowStacks x = new BorrowStacks();
        for (int cells : new int[] {0, -1, 9, Integer.MIN_VALUE, Integer.MAX_VALUE}) {
            due("2 allocate(" + cells + ")", x.allocate(cells), INVALID);
        }
        for (int i = 0; i < 10; i++) due("2 allocate", x.allocate(i % 8 + 1), i);
        due("2 eleventh", x.allocate(1), FULL);
        due("2 INVALID before FULL", x.allocate(0), INVALID);
        due("2 free", x.free(9), 2);
        due("2 freed ones count, too", x.allocate(1), FULL);
        due("20 allocation 10 of ten", x.isFreed(10), INVALID);
        due("13 allocation 10 of ten", x.stackSize(10, 0), INVALID);
        due("2 FULL counted", x.errorCount(2), 2);
        due("2 INVALID counted", x.errorCount(0), 8);
        dueStack("2", x, 7, 7, "7U");
        due("2 no cell 8", x.stackSize(7, 8), INVALID);
        due("2 value", x.read(7, 7), 0);
    }

    private static void promise02AllocateWithSixtyPointers() {
        BorrowStacks x = withCells(1);
        for (int i = 1; i < 60; i++) due("2 reborrow", x.reborrow(0, MUTABLE, 0, 1, 0), i);
        due("2 sixty pointers", x.allocate(1), FULL);
        due("2 pointerCount", x.pointerCount(), 60);
        due("2 no second allocation", x.isFreed(1), INVALID);
    }

    private static void promise03Read() {
        BorrowStacks x = withCells(2);
        due("3 pointer 1", x.read(1, 0), INVALID);
        due("3 pointer -1", x.read(-1, 0), INVALID);
        due("3 pointer max", x.read(Integer.MAX_VALUE, 0), INVALID);
        due("3 cell 2", x.read(0, 2), INVALID);
        due("3 cell -1", x.read(0, -1), INVALID);
        due("3 cell max", x.read(0, Integer.MAX_VALUE), INVALID);
        due("3 cell min", x.read(0, Integer.MIN_VALUE), INVALID);
        due("3 errors", x.errorCount(0), 7);
        x.write(0, 1, 42);
        due("3 value", x.read(0, 1), 42);
        due("3 other cell", x.read(0, 0), 0);
        due("3 free", x.free(0), 2);
        due("3 freed", x.read(0, 1), UNDEFINED);
        dueViolations("3 freed", x, 1, FREED, 1);
        due("3 INVALID before FREED", x.read(0, 2), INVALID);
    }

    private static void promise03ReadDisables() {
        BorrowStacks x = withCells(1);
        x.reborrow(0, MUTABLE, 0, 1, 0);
        x.reborrow(1, RAW, 0, 1, 0);
        x.reborrow(2, MUTABLE, 0, 1, 0);
        x.reborrow(3, SHARED, 0, 1, 0);
        dueStack("3 before", x, 0, 0, "0U 1U 2W 3U 4R");
        due("3 top", x.read(4, 0), 0);
        dueStack("3 by the top", x, 0, 0, "0U 1U 2W 3U 4R");
        due("3 raw", x.read(2, 0), 0);
        dueStack("3 by raw", x, 0, 0, "0U 1U 2W 3D 4R");
        due("3 disabled does not grant", x.read(3, 0), UNDEFINED);
        dueViolations("3", x, 1, NO_PERMISSION, 0);
        due("3 bottom", x.read(0, 0), 0);
        dueStack("3 by the bottom", x, 0, 0, "0U 1D 2W 3D 4R");
        due("3 above a disabled one", x.read(4, 0), 0);

        BorrowStacks y = withCells(1);
        y.enterCall();
        y.reborrow(0, RAW, 0, 1, 1);
        y.reborrow(1, SHARED, 0, 1, 1);
        due("3 only UNIQUE protected items hinder", y.read(0, 0), 0);
        dueStack("3", y, 0, 0, "0U 1W! 2R!");
        y.reborrow(1, MUTABLE, 0, 1, 1);
        dueStack("3 a write would remove a protected item", y, 0, 0, "0U 1W! 2R!");
        dueViolations("3", y, 1, PROTECTED, 0);
    }

    private static void promise04Write() {
        BorrowStacks x = withCells(2);
        due("4 value 100", x.write(0, 0, 100), INVALID);
        due("4 value -1", x.write(0, 0, -1), INVALID);
        due("4 cell 2", x.write(0, 2, 1), INVALID);
        due("4 cell -1", x.write(0, -1, 1), INVALID);
        due("4 pointer 1", x.write(1, 0, 1), INVALID);
        due("4 pointer -1", x.write(-1, 0, 1), INVALID);
        due("4 errors", x.errorCount(0), 6);
        due("4 first", x.write(0, 1, 99), 0);
        due("4 previous", x.write(0, 1, 0), 99);
        x.reborrow(0, SHARED, 0, 1, 0);
        due("4 read only", x.write(1, 0, 1), UNDEFINED);
        due("4 no item at the cell", x.write(1, 1, 1), UNDEFINED);
        dueViolations("4", x, 2, NO_PERMISSION, 1);
        due("4 value stays", x.read(0, 0), 0);
        due("4 removes", x.write(0, 0, 1), 0);
        dueStack("4", x, 0, 0, "0U");
        x.enterCall();
        x.reborrow(0, SHARED, 0, 2, 1);
        due("4 protected", x.write(0, 1, 5), UNDEFINED);
        dueViolations("4", x, 3, PROTECTED, 1);
        dueStack("4 stays", x, 0, 1, "0U 2R!");
        x.leaveCall();
        due("4 no longer protected", x.write(0, 1, 5), 0);
        dueStack("4 gone", x, 0, 1, "0U");
        x.free(0);
        due("4 freed", x.write(0, 1, 5), UNDEFINED);
        dueViolations("4", x, 4, FREED, 1);
        due("4 INVALID before FREED", x.write(0, 1, 100), INVALID);
    }

    private static void promise04WriteThroughRaw() {
        BorrowStacks x = withCells(1);
        x.reborrow(0, RAW, 0, 1, 0);
        x.reborrow(1, RAW, 0, 1, 0);
        x.reborrow(1, RAW, 0, 1, 0);
        x.reborrow(2, SHARED, 0, 1, 0);
        dueStack("4 raw", x, 0, 0, "0U 1W 2W 3W 4R");
        due("4 raw in the middle", x.write(2, 0, 1), 0);
        dueStack("4 raw ones stay", x, 0, 0, "0U 1W 2W 3W");
        x.reborrow(3, MUTABLE, 0, 1, 0);
        x.reborrow(5, RAW, 0, 1, 0);
        dueStack("4 raw above unique", x, 0, 0, "0U 1W 2W 3W 5U 6W");
        due("4 up to the first other", x.write(1, 0, 2), 1);
        dueStack("4 later raw ones go", x, 0, 0, "0U 1W 2W 3W");
        x.enterCall();
        x.reborrow(1, RAW, 0, 1, 1);
        due("4 a protected one that stays", x.write(1, 0, 3), 2);
        due("4 a protected one that would go", x.write(0, 0, 3), UNDEFINED);
        dueViolations("4 raw", x, 1, PROTECTED, 0);
    }

    private static void promise05ReborrowArguments() {
        BorrowStacks x = withCells(3);
        due("5 pointer 1", x.reborrow(1, MUTABLE, 0, 1, 0), INVALID);
        due("5 pointer -1", x.reborrow(-1, MUTABLE, 0, 1, 0), INVALID);
        due("5 kind -1", x.reborrow(0, -1, 0, 1, 0), INVALID);
        due("5 kind 3", x.reborrow(0, 3, 0, 1, 0), INVALID);
        due("5 from -1", x.reborrow(0, SHARED, -1, 1, 0), INVALID);
        due("5 from 3", x.reborrow(0, SHARED, 3, 1, 0), INVALID);
        due("5 from min", x.reborrow(0, SHARED, Integer.MIN_VALUE, 1, 0), INVALID);
        due("5 from max", x.reborrow(0, SHARED, Integer.MAX_VALUE, 1, 0), INVALID);
        due("5 count 0", x.reborrow(0, SHARED, 0, 0, 0), INVALID);
        due("5 count -1", x.reborrow(0, SHARED, 1, -1, 0), INVALID);
        due("5 count 4", x.reborrow(0, SHARED, 0, 4, 0), INVALID);
        due("5 range 1 to 3", x.reborrow(0, SHARED, 1, 3, 0), INVALID);
        due("5 count max", x.reborrow(0, SHARED, 2, Integer.MAX_VALUE, 0), INVALID);
        due("5 protect 2", x.reborrow(0, SHARED, 0, 1, 2), INVALID);
        due("5 protect -1", x.reborrow(0, SHARED, 0, 1, -1), INVALID);
        due("5 errors", x.errorCount(0), 15);
        due("5 no call", x.reborrow(0, SHARED, 0, 1, 1), REJECTED);
        due("5 rejected", x.errorCount(1), 1);
        due("5 nothing made", x.pointerCount(), 1);
        due("5 whole range", x.reborrow(0, SHARED, 0, 3, 0), 1);
        due("5 last cell", x.reborrow(0, SHARED, 2, 1, 0), 2);
        dueStack("5", x, 0, 0, "0U 1R");
        dueStack("5", x, 0, 1, "0U 1R");
        dueStack("5", x, 0, 2, "0U 1R 2R");
    }

    private static void promise05ReborrowKinds() {
        BorrowStacks x = withCells(1);
        x.reborrow(0, MUTABLE, 0, 1, 0);
        x.reborrow(1, MUTABLE, 0, 1, 0);
        dueStack("5", x, 0, 0, "0U 1U 2U");
        due("5 shared", x.reborrow(0, SHARED, 0, 1, 0), 3);
        dueStack("5 shared disables", x, 0, 0, "0U 1D 2D 3R");
        due("5 shared of shared", x.reborrow(3, SHARED, 0, 1, 0), 4);
        due("5 mutable of shared", x.reborrow(3, MUTABLE, 0, 1, 0), UNDEFINED);
        due("5 raw of shared", x.reborrow(3, RAW, 0, 1, 0), UNDEFINED);
        dueViolations("5", x, 2, NO_PERMISSION, 0);
        due("5 mutable", x.reborrow(0, MUTABLE, 0, 1, 0), 5);
        dueStack("5 mutable removes", x, 0, 0, "0U 5U");
        x.enterCall();
        due("5 protect", x.reborrow(5, MUTABLE, 0, 1, 1), 6);
        due("5 not protect", x.reborrow(6, RAW, 0, 1, 0), 7);
        dueStack("5 protector", x, 0, 0, "0U 5U 6U! 7W");
        due("5 parent", x.parent(7), 6);
    }

    private static void promise05RawPlaces() {
        BorrowStacks x = withCells(1);
        x.reborrow(0, MUTABLE, 0, 1, 0);
        x.enterCall();
        x.reborrow(1, MUTABLE, 0, 1, 1);
        due("5 raw removes nothing", x.reborrow(0, RAW, 0, 1, 1), 3);
        dueStack("5 raw above unique", x, 0, 0, "0U 3W! 1U 2U!");
        due("5 raw of raw", x.reborrow(3, RAW, 0, 1, 0), 4);
        dueStack("5 raw above raws", x, 0, 0, "0U 3W! 4W 1U 2U!");
        due("5 raw of unique again", x.reborrow(0, RAW, 0, 1, 0), 5);
        dueStack("5 directly above unique", x, 0, 0, "0U 5W 3W! 4W 1U 2U!");
        due("5 raw of the middle", x.reborrow(5, RAW, 0, 1, 0), 6);
        dueStack("5 above the consecutive ones", x, 0, 0, "0U 5W 3W! 4W 6W 1U 2U!");
        due("5 top", x.reborrow(2, RAW, 0, 1, 0), 7);
        dueStack("5 on top", x, 0, 0, "0U 5W 3W! 4W 6W 1U 2U! 7W");
        dueViolations("5 raw", x, 0, 0, NONE);
    }

    private static void promise05ReborrowViolations() {
        BorrowStacks x = withCells(4);
        x.reborrow(0, RAW, 1, 2, 0);
        due("5 starts outside", x.reborrow(1, MUTABLE, 0, 3, 0), UNDEFINED);
        dueViolations("5", x, 1, NO_PERMISSION, 0);
        due("5 ends outside", x.reborrow(1, RAW, 1, 3, 0), UNDEFINED);
        dueViolations("5", x, 2, NO_PERMISSION, 3);
        dueStack("5 stays", x, 0, 1, "0U 1W");
        x.enterCall();
        x.reborrow(0, MUTABLE, 3, 1, 1);
        due("5 protected", x.reborrow(0, SHARED, 0, 4, 0), UNDEFINED);
        dueViolations("5", x, 3, PROTECTED, 3);
        due("5 pointers stay", x.pointerCount(), 3);
        dueStack("5 stays", x, 0, 0, "0U");
        x.leaveCall();
        due("5 free", x.free(0), 4);
        due("5 freed", x.reborrow(2, RAW, 2, 2, 0), UNDEFINED);
        dueViolations("5 the first cell of the range", x, 4, FREED, 2);
    }

    private static void promise05ReborrowFullStack() {
        BorrowStacks x = withCells(2);
        for (int i = 1; i < 12; i++) due("5 fill", x.reborrow(i - 1, MUTABLE, 1, 1, 0) >= 0 ? 1 : 0, 1);
        due("5 size", x.stackSize(0, 1), 12);
        due("5 mutable of the top", x.reborrow(11, MUTABLE, 1, 1, 0), FULL);
        due("5 raw", x.reborrow(0, RAW, 0, 2, 0), FULL);
        due("5 shared", x.reborrow(0, SHARED, 0, 2, 0), FULL);
        dueStack("5 nothing disabled", x, 0, 1, "0U 1U 2U 3U 4U 5U 6U 7U 8U 9U 10U 11U");
        dueStack("5 other cell", x, 0, 0, "0U");
        due("5 counted", x.errorCount(2), 3);
        due("5 no violation", x.violationCount(), 0);
        due("5 mutable of the next makes room", x.reborrow(10, MUTABLE, 1, 1, 0), 12);
        due("5 size", x.stackSize(0, 1), 12);
    }

    private static void promise05ReborrowFullPointers() {
        BorrowStacks x = withCells(1);
        for (int i = 1; i < 60; i++) due("5 reborrow", x.reborrow(0, MUTABLE, 0, 1, 0), i);
        due("5 sixty", x.reborrow(0, MUTABLE, 0, 1, 0), FULL);
        dueStack("5 sixty", x, 0, 0, "0U 59U");
        due("5 violation before FULL", x.reborrow(58, MUTABLE, 0, 1, 0), UNDEFINED);
        due("5 REJECTED before the violation", x.reborrow(58, MUTABLE, 0, 1, 1), REJECTED);
        due("5 INVALID before REJECTED", x.reborrow(58, MUTABLE, 0, 2, 1), INVALID);
        due("5 FULL", x.errorCount(2), 1);
        due("5 pointer 60 of sixty", x.reborrow(60, MUTABLE, 0, 1, 0), INVALID);
        due("3 pointer 60 of sixty", x.read(60, 0), INVALID);
        due("17 pointer 60 of sixty", x.allocationOf(60), INVALID);
    }

    private static void promise05ErrorOrder() {
        BorrowStacks x = withCells(2);
        x.reborrow(0, RAW, 0, 1, 0);
        for (int i = 0; i < 10; i++) x.reborrow(1, RAW, 0, 1, 0);
        due("5 size", x.stackSize(0, 0), 12);
        due("5 a later violation before an earlier full stack", x.reborrow(1, RAW, 0, 2, 0), UNDEFINED);
        dueViolations("5", x, 1, NO_PERMISSION, 1);
        due("5 full", x.reborrow(0, RAW, 0, 2, 0), FULL);
        due("5 no item", x.stackSize(0, 1), 1);
    }

    private static void promise06Free() {
        BorrowStacks x = withCells(3);
        due("6 pointer 1", x.free(1), INVALID);
        due("6 pointer -1", x.free(-1), INVALID);
        due("6 counted", x.errorCount(0), 2);
        x.write(0, 1, 7);
        x.reborrow(0, RAW, 0, 3, 0);
        x.reborrow(1, SHARED, 0, 3, 0);
        due("6 read only", x.free(2), UNDEFINED);
        dueViolations("6", x, 1, NO_PERMISSION, 0);
        due("6 raw", x.free(1), 3);
        due("6 isFreed", x.isFreed(0), 1);
        dueStack("6 stacks stay", x, 0, 1, "0U 1W 2R");
        due("6 again", x.free(0), UNDEFINED);
        dueViolations("6", x, 2, FREED, 0);
        due("6 pointers stay", x.pointerCount(), 3);
        due("6 allocationOf stays", x.allocationOf(2), 0);
    }

    private static void promise06FreeTellsFirstCell() {
        BorrowStacks x = withCells(4);
        x.reborrow(0, MUTABLE, 0, 3, 0);
        x.enterCall();
        x.reborrow(0, RAW, 3, 1, 1);
        due("6 no item at the last cell", x.free(1), UNDEFINED);
        dueViolations("6", x, 1, NO_PERMISSION, 3);
        due("6 protected above", x.free(0), UNDEFINED);
        dueViolations("6", x, 2, PROTECTED, 3);
        x.reborrow(1, MUTABLE, 1, 1, 1);
        due("6 an earlier cell is protected", x.free(0), UNDEFINED);
        dueViolations("6", x, 3, PROTECTED, 1);
        due("6 an earlier protection before a later lack", x.checkFree(3), NO_PERMISSION);

        BorrowStacks y = withCells(1);
        y.enterCall();
        y.reborrow(0, MUTABLE, 0, 1, 1);
        y.reborrow(1, RAW, 0, 1, 0);
        due("6 write is fine", y.checkWrite(2, 0), 0);
        due("6 a protected item below", y.free(2), UNDEFINED);
        dueViolations("6", y, 1, PROTECTED, 0);
        due("6 its own item is protected", y.free(1), UNDEFINED);
        due("6 not freed", y.isFreed(0), 0);
        y.leaveCall();
        due("6 free", y.free(2), 1);
    }

    private static void promise07And08Calls() {
        BorrowStacks x = new BorrowStacks();
        due("8 none", x.leaveCall(), REJECTED);
        for (int i = 1; i <= 5; i++) due("7 enter", x.enterCall(), i);
        due("7 sixth", x.enterCall(), FULL);
        due("7 depth", x.callDepth(), 5);
        for (int i = 4; i >= 0; i--) due("8 leave", x.leaveCall(), i);
        due("8 none", x.leaveCall(), REJECTED);
        due("8 counted", x.errorCount(1), 2);
        due("7 counted", x.errorCount(2), 1);
        for (int i = 0; i < 40; i++) {
            due("7 again", x.enterCall(), 1);
            due("8 again", x.leaveCall(), 0);
        }
    }

    private static void promise09CheckRead() {
        BorrowStacks x = withCells(2);
        due("9 pointer", x.checkRead(1, 0), INVALID);
        due("9 pointer -1", x.checkRead(-1, 0), INVALID);
        due("9 cell", x.checkRead(0, 2), INVALID);
        due("9 cell -1", x.checkRead(0, -1), INVALID);
        due("9 counted", x.errorCount(0), 4);
        x.enterCall();
        x.reborrow(0, MUTABLE, 0, 1, 1);
        due("9 protected", x.checkRead(0, 0), PROTECTED);
        due("9 fine", x.checkRead(0, 1), 0);
        due("9 fine", x.checkRead(1, 0), 0);
        due("9 no item", x.checkRead(1, 1), NO_PERMISSION);
        x.leaveCall();
        due("9 fine now", x.checkRead(0, 0), 0);
        dueStack("9 nothing disabled", x, 0, 0, "0U 1U");
        x.free(0);
        due("9 freed", x.checkRead(0, 0), FREED);
        due("9 no violation", x.violationCount(), 0);
    }

    private static void promise10CheckWrite() {
        BorrowStacks x = withCells(2);
        due("10 pointer", x.checkWrite(1, 0), INVALID);
        due("10 pointer -1", x.checkWrite(-1, 0), INVALID);
        due("10 cell", x.checkWrite(0, 2), INVALID);
        due("10 cell -1", x.checkWrite(0, -1), INVALID);
        due("10 counted", x.errorCount(0), 4);
        x.enterCall();
        x.reborrow(0, SHARED, 0, 1, 1);
        due("10 protected", x.checkWrite(0, 0), PROTECTED);
        due("10 fine", x.checkWrite(0, 1), 0);
        due("10 read only", x.checkWrite(1, 0), NO_PERMISSION);
        x.leaveCall();
        due("10 fine now", x.checkWrite(0, 0), 0);
        dueStack("10 nothing removed", x, 0, 0, "0U 1R");
        x.free(0);
        due("10 freed", x.checkWrite(0, 0), FREED);
        due("10 no violation", x.violationCount(), 0);
    }

    private static void promise11CheckFree() {
        BorrowStacks x = withCells(2);
        due("11 pointer", x.checkFree(1), INVALID);
        due("11 pointer -1", x.checkFree(-1), INVALID);
        due("11 counted", x.errorCount(0), 2);
        x.enterCall();
        x.reborrow(0, MUTABLE, 1, 1, 1);
        due("11 protected", x.checkFree(0), PROTECTED);
        due("11 no item", x.checkFree(1), NO_PERMISSION);
        x.leaveCall();
        due("11 fine", x.checkFree(0), 0);
        due("11 not freed", x.isFreed(0), 0);
        x.free(0);
        due("11 freed", x.checkFree(1), FREED);
        due("11 no violation", x.violationCount(), 0);
    }

    private static void promise12RemovedByWrite() {
        BorrowStacks x = withCells(1);
        due("12 pointer", x.removedByWrite(1, 0), INVALID);
        due("12 pointer -1", x.removedByWrite(-1, 0), INVALID);
        due("12 cell", x.removedByWrite(0, 1), INVALID);
        due("12 cell -1", x.removedByWrite(0, -1), INVALID);
        due("12 counted", x.errorCount(0), 4);
        due("12 nothing", x.removedByWrite(0, 0), 0);
        x.reborrow(0, RAW, 0, 1, 0);
        x.reborrow(1, RAW, 0, 1, 0);
        x.reborrow(2, SHARED, 0, 1, 0);
        due("12 unique", x.removedByWrite(0, 0), 3);
        due("12 raw", x.removedByWrite(1, 0), 1);
        due("12 read only", x.removedByWrite(3, 0), NONE);
        x.enterCall();
        x.reborrow(2, SHARED, 0, 1, 1);
        due("12 protected", x.removedByWrite(1, 0), NONE);
        x.leaveCall();
        due("12 no longer", x.removedByWrite(1, 0), 2);
        due("12 size", x.stackSize(0, 0), 5);
        x.free(0);
        due("12 freed", x.removedByWrite(0, 0), NONE);
        due("12 NONE is no error", x.errorCount(0), 4);
    }

    private static void promise13To16Items() {
        BorrowStacks x = withCells(1);
        due("allocate", x.allocate(2), 1);
        int[][] wrongCells = {{2, 0}, {-1, 0}, {0, 1}, {0, -1}, {1, 2}, {Integer.MAX_VALUE, 0}, {0, Integer.MIN_VALUE}};
        for (int[] at : wrongCells) {
            due("13", x.stackSize(at[0], at[1]), INVALID);
            due("14", x.itemTag(at[0], at[1], 0), INVALID);
            due("15", x.itemPermission(at[0], at[1], 0), INVALID);
            due("16", x.itemProtected(at[0], at[1], 0), INVALID);
        }
        for (int index : new int[] {-1, 1, 12, Integer.MAX_VALUE, Integer.MIN_VALUE}) {
            due("14", x.itemTag(1, 0, index), INVALID);
            due("15", x.itemPermission(1, 0, index), INVALID);
            due("16", x.itemProtected(1, 0, index), INVALID);
        }
        due("13 to 16 counted", x.errorCount(0), 7 * 4 + 5 * 3);
        x.enterCall();
        x.reborrow(1, SHARED, 1, 1, 1);
        due("13", x.stackSize(1, 1), 2);
        due("14", x.itemTag(1, 1, 0), 1);
        due("14", x.itemTag(1, 1, 1), 2);
        due("15", x.itemPermission(1, 1, 1), 2);
        due("16", x.itemProtected(1, 1, 0), 0);
        due("16", x.itemProtected(1, 1, 1), 1);
        x.leaveCall();
        x.write(1, 1, 1);
        due("14 a removed item", x.itemTag(1, 1, 1), INVALID);
    }

    private static void promise16ProtectorsEndWithTheirCall() {
        BorrowStacks x = withCells(1);
        x.enterCall();
        x.reborrow(0, MUTABLE, 0, 1, 1);
        x.enterCall();
        x.reborrow(1, MUTABLE, 0, 1, 1);
        dueStack("16 both", x, 0, 0, "0U 1U! 2U!");
        x.leaveCall();
        dueStack("16 the outer", x, 0, 0, "0U 1U! 2U");
        x.enterCall();
        dueStack("16 a new call is another call", x, 0, 0, "0U 1U! 2U");
        x.leaveCall();
        x.leaveCall();
        x.enterCall();
        x.enterCall();
        dueStack("16 none", x, 0, 0, "0U 1U 2U");
        x.reborrow(2, MUTABLE, 0, 1, 1);
        dueStack("16 the innermost protects", x, 0, 0, "0U 1U 2U 3U!");
        x.leaveCall();
        dueStack("16 gone with the innermost", x, 0, 0, "0U 1U 2U 3U");
    }

    private static void promise17And18Pointers() {
        BorrowStacks x = withCells(1);
        x.allocate(1);
        x.reborrow(1, MUTABLE, 0, 1, 0);
        x.reborrow(2, SHARED, 0, 1, 0);
        int[] homes = {0, 1, 1, 1};
        int[] parents = {NONE, NONE, 1, 2};
        for (int i = 0; i < 4; i++) {
            due("17", x.allocationOf(i), homes[i]);
            due("18", x.parent(i), parents[i]);
        }
        due("18 NONE is no error", x.errorCount(0), 0);
        for (int pointer : new int[] {4, -1, 60, Integer.MAX_VALUE, Integer.MIN_VALUE}) {
            due("17", x.allocationOf(pointer), INVALID);
            due("18", x.parent(pointer), INVALID);
        }
        due("17 and 18 counted", x.errorCount(0), 10);
    }

    private static void promise19LiveCells() {
        BorrowStacks x = withCells(3);
        x.reborrow(0, MUTABLE, 0, 3, 0);
        due("19 all", x.liveCells(1), 3);
        x.read(0, 0);
        due("19 disabled", x.liveCells(1), 2);
        x.write(0, 1, 1);
        due("19 removed", x.liveCells(1), 1);
        x.reborrow(1, SHARED, 2, 1, 0);
        due("19 read only", x.liveCells(2), 1);
        due("19 the first", x.liveCells(0), 3);
        x.free(0);
        due("19 freed", x.liveCells(0), 0);
        due("19 freed", x.liveCells(2), 0);
        due("19 pointer", x.liveCells(3), INVALID);
        due("19 pointer -1", x.liveCells(-1), INVALID);
        due("19 counted", x.errorCount(0), 2);
    }

    private static void promise20IsFreed() {
        BorrowStacks x = withCells(1);
        x.allocate(1);
        due("20 not", x.isFreed(0), 0);
        x.free(1);
        due("20 not", x.isFreed(0), 0);
        due("20 freed", x.isFreed(1), 1);
        due("20 2", x.isFreed(2), INVALID);
        due("20 -1", x.isFreed(-1), INVALID);
        due("20 max", x.isFreed(Integer.MAX_VALUE), INVALID);
        due("20 counted", x.errorCount(0), 3);
    }

    private static void promise21And22Counts() {
        BorrowStacks x = withCells(2);
        due("21", x.pointerCount(), 1);
        x.reborrow(0, RAW, 0, 2, 0);
        due("21", x.pointerCount(), 2);
        x.free(0);
        due("21 freed ones count", x.pointerCount(), 2);
        x.enterCall();
        due("22", x.callDepth(), 1);
        x.leaveCall();
        due("22", x.callDepth(), 0);
        x.leaveCall();
        due("22 rejected", x.callDepth(), 0);
    }

    private static void promise23To25Violations() {
        BorrowStacks x = withCells(3);
        x.reborrow(0, SHARED, 2, 1, 0);
        x.write(1, 2, 0);
        dueViolations("23", x, 1, NO_PERMISSION, 2);
        x.enterCall();
        x.reborrow(0, MUTABLE, 1, 1, 1);
        x.read(0, 1);
        dueViolations("23", x, 2, PROTECTED, 1);
        x.read(0, 3);
        x.read(0, 0);
        dueViolations("23 the latest stays", x, 2, PROTECTED, 1);
        x.leaveCall();
        x.free(0);
        x.free(0);
        dueViolations("23", x, 3, FREED, 0);
        due("23 a violation is no counted error", x.errorCount(0) + x.errorCount(1) + x.errorCount(2), 1);
    }

    private static void promise26ErrorCount() {
        BorrowStacks x = new BorrowStacks();
        due("26 3", x.errorCount(3), INVALID);
        due("26 -1", x.errorCount(-1), INVALID);
        due("26 max", x.errorCount(Integer.MAX_VALUE), INVALID);
        due("26 min", x.errorCount(Integer.MIN_VALUE), INVALID);
        due("26 counted", x.errorCount(0), 4);
        x.leaveCall();
        for (int i = 0; i < 7; i++) x.enterCall();
        due("26 INVALID", x.errorCount(0), 4);
        due("26 REJECTED", x.errorCount(1), 1);
        due("26 FULL", x.errorCount(2), 2);
    }

    private static void promise27And28Text() {
        BorrowStacks x = new BorrowStacks();
        due("27 -1", x.append(-1), INVALID);
        due("27 128", x.append(128), INVALID);
        due("27 max", x.append(Integer.MAX_VALUE), INVALID);
        due("27 0", x.append(0), 1);
        due("27 127", x.append(127), 2);
        for (int i = 3; i <= 120; i++) due("27", x.append(' '), i);
        due("27 full", x.append(' '), FULL);
        due("27 INVALID before FULL", x.append(128), INVALID);
        due("27 counted", x.errorCount(0), 4);
        due("27 counted", x.errorCount(2), 1);
        due("28", x.clearText(), 120);
        due("28 empty", x.clearText(), 0);
        due("27 anew", x.append(65), 1);
    }

    private static void promise29Syntax() {
        BorrowStacks x = new BorrowStacks();
        script(x, "", -10);
        script(x, "   ", -13);
        script(x, "x", -10);
        script(x, " E;", -11);
        script(x, ";", -10);
        script(x, "e;;", -12);
        script(x, "e", -11);
        script(x, "e ", -12);
        script(x, "e1;", -11);
        script(x, "e 1;", -12);
        script(x, "ee;", -11);
        script(x, "a", -11);
        script(x, "a;", -11);
        script(x, "a 1", -13);
        script(x, "a 1 ", -14);
        script(x, "a 1 1;", -14);
        script(x, "a 123;", -14);
        script(x, "a 001;", -14);
        script(x, "a-1;", -11);
        script(x, "a+1;", -11);
        script(x, "a1\t;", -12);
        script(x, "a1;r0 0", -17);
        script(x, "a1;r0,0;", -15);
        script(x, "r12;", -13);
        script(x, "r012;", -13);
        script(x, "w0 012;", -15);
        script(x, "r1;", -12);
        script(x, "w0 0;", -14);
        script(x, "w0 0 0 0;", -17);
        script(x, "m0 0;", -14);
        script(x, "s0 0;", -14);
        script(x, "p0 0;", -14);
        script(x, "f;", -11);
        script(x, "l0;", -11);
        script(x, "a1;\0", -13);
        script(x, "a1;a1;a1;a1;q", -22);
        script(x, "a1/", -12);
        script(x, "a1:", -12);
        due("29 nothing executed", x.pointerCount(), 0);
        for (int kind = 0; kind < 3; kind++) due("29 no error counted", x.errorCount(kind), 0);
        String sixtyNoise = "e;".repeat(59) + "e ";
        script(x, sixtyNoise, -130);
        due("29 nothing executed", x.callDepth(), 0);
    }

    private static void promise29Execution() {
        BorrowStacks x = new BorrowStacks();
        script(x, " a 02 ;  w0 1 99;r00 01 ; m 0 0 02;s1 0 1;p1 1 1; e ;l; ", 8);
        due("29 value", x.read(0, 1), 99);
        due("29 pointers", x.pointerCount(), 4);
        dueStack("29", x, 0, 0, "0U 1U 2R");
        dueStack("29", x, 0, 1, "0U 1D 3W");
        script(x, "e;m0 0 1;l;", 3);
        dueStack("29 not protected", x, 0, 0, "0U 4U");
        script(x, "w0 0 7;w0 2 7;w0 0 8;", -1001);
        due("29 before it keeps its effect", x.read(0, 0), 7);
        script(x, "l;", -1000);
        script(x, "e;e;e;e;e;e;", -1005);
        due("29 depth", x.callDepth(), 5);
        script(x, "l;l;l;l;l;r0 0;r60 0;", -1006);
        script(x, "w1 1 1;", -1000);
        dueViolations("29", x, 1, NO_PERMISSION, 1);
        script(x, "a0;", -1000);
        script(x, "a9;", -1000);
        script(x, "s0 0 0;", -1000);
        script(x, "f0;", 1);
        due("29 freed", x.isFreed(0), 1);
        script(x, "f0;", -1000);
        dueViolations("29", x, 2, FREED, 0);
        script(x, "a1;a1;a1;a1;a1;a1;a1;a1;a1;a1;", -1009);
        for (int kind = 0; kind < 3; kind++) due("29 no error counted", x.errorCount(kind), 0);
        type(x, "e;l;".repeat(30));
        due("29 sixty commands", x.runScript(), 60);
        due("29 the buffer stays", x.runScript(), 60);
        due("29 full", x.append('e'), FULL);
        due("29 length", x.clearText(), 120);
    }

    private static void promise30Digest() {
        due("30 new", new BorrowStacks().digest(), hash(0, 0, 0, 0, 0, 0, -1, 0, 0, 0));
        BorrowStacks x = withCells(2);
        x.enterCall();
        x.reborrow(0, MUTABLE, 1, 1, 1);
        x.write(1, 1, 33);
        x.read(0, 1);
        x.append(65);
        x.leaveCall();
        x.leaveCall();
        x.enterCall();
        x.reborrow(1, RAW, 1, 1, 1);
        due("30", x.digest(), hash(0, 1, 0, 1, 1, 2, 1, 1, 1,
                2, 0, 0, 1, 0, 0, 0, 33, 3, 0, 0, 0, 1, 0, 0, 2, 1, 1,
                3, 0, -1, 2, 0, 0, 1, 0, 1, 1));
        x.leaveCall();
        x.free(2);
        x.free(0);
        x.allocate(1);
        due("30 freed", x.digest(), hash(0, 1, 0, 1, 2, 1, 0, 0, 2,
                2, 1, 0, 1, 0, 0, 0, 33, 3, 0, 0, 0, 1, 0, 0, 2, 1, 0,
                1, 0, 0, 1, 3, 0, 0,
                4, 0, -1, 0, 0, 0, 0, 0, 1, 0, 1, -1, 1));
    }

    private static void questionsChangeNothing() {
        BorrowStacks x = withCells(2);
        x.enterCall();
        x.reborrow(0, MUTABLE, 0, 2, 1);
        x.reborrow(1, RAW, 0, 1, 0);
        x.read(0, 0);
        long before = x.digest();
        for (int pointer = 0; pointer < 3; pointer++) {
            for (int cell = 0; cell < 2; cell++) {
                x.checkRead(pointer, cell);
                x.checkWrite(pointer, cell);
                x.removedByWrite(pointer, cell);
                x.stackSize(0, cell);
                x.itemTag(0, cell, 0);
                x.itemPermission(0, cell, 0);
                x.itemProtected(0, cell, 0);
            }
            x.checkFree(pointer);
            x.allocationOf(pointer);
            x.parent(pointer);
            x.liveCells(pointer);
            x.errorCount(pointer);
        }
        x.isFreed(0);
        due("questions change nothing", x.digest(), before);
        due("digest changes nothing", x.digest(), before);
    }
}
