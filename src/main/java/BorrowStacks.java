/** An interpreter for the Stacked Borrows aliasing model. */
public final class BorrowStacks {
    public static final int INVALID = -2;
    public static final int REJECTED = -3;
    public static final int FULL = -4;
    public static final int UNDEFINED = -5;
    public static final int NONE = -1;
    public static final int UNIQUE = 0, SHARED_READ_WRITE = 1, SHARED_READ_ONLY = 2, DISABLED = 3;
    public static final int MUTABLE = 0, SHARED = 1, RAW = 2;
    public static final int NO_PERMISSION = 1, PROTECTED = 2, FREED = 3;

    private static final int MAX_ALLOCATIONS = 10;
    private static final int MAX_CELLS = 8;
    private static final int MAX_VALUE = 99;
    private static final int MAX_POINTERS = 60;
    private static final int MAX_ITEMS = 12;
    private static final int MAX_CALLS = 5;
    private static final int MAX_TEXT = 120;
    private static final int MAX_BYTE = 127;
    // The shortest command, "e;", takes two bytes of the text.
    private static final int MAX_COMMANDS = MAX_TEXT / 2;
    private static final int MAX_ARGUMENTS = 3;
    private static final int ERROR_KINDS = 3;

    private static final int ALLOWED = 0;
    private static final int NO_PROTECTOR = 0;
    private static final int SYNTAX_BASE = -10;
    private static final int STOP_BASE = -1000;
    private static final long DIGEST_START = 12011L;
    private static final long DIGEST_FACTOR = 31L;

    private final Allocation[] allocations = new Allocation[MAX_ALLOCATIONS];
    private int allocationTotal;
    private final Pointer[] pointers = new Pointer[MAX_POINTERS];
    private int pointerTotal;
    private final Calls calls = new Calls();
    private final Script script = new Script();
    private final int[] errors = new int[ERROR_KINDS];
    private int violations;
    private int latestKind = ALLOWED;
    private int latestCell = NONE;

    public BorrowStacks() {
    }

    // ---- operations of the simulated program

    public int allocate(int cells) {
        return counted(performAllocate(cells));
    }

    public int read(int pointer, int cell) {
        return counted(performRead(pointer, cell));
    }

    public int write(int pointer, int cell, int value) {
        return counted(performWrite(pointer, cell, value));
    }

    public int reborrow(int pointer, int kind, int from, int count, int protect) {
        return counted(performReborrow(pointer, kind, from, count, protect));
    }

    public int free(int pointer) {
        return counted(performFree(pointer));
    }

    public int enterCall() {
        return counted(performEnter());
    }

    public int leaveCall() {
        return counted(performLeave());
    }

    // ---- questions; they change nothing

    public int checkRead(int pointer, int cell) {
        Pointer through = pointerAt(pointer);
        Cell target = cellThrough(through, cell);
        if (through == null || target == null) {
            return counted(INVALID);
        }
        return through.home.freed ? FREED : target.readViolation(pointer, calls);
    }

    public int checkWrite(int pointer, int cell) {
        Pointer through = pointerAt(pointer);
        Cell target = cellThrough(through, cell);
        if (through == null || target == null) {
            return counted(INVALID);
        }
        return through.home.freed ? FREED : target.writeViolation(pointer, calls);
    }

    public int checkFree(int pointer) {
        Pointer through = pointerAt(pointer);
        if (through == null) {
            return counted(INVALID);
        }
        return through.home.freed ? FREED : through.home.freeViolation(pointer, calls);
    }

    public int removedByWrite(int pointer, int cell) {
        Pointer through = pointerAt(pointer);
        Cell target = cellThrough(through, cell);
        if (through == null || target == null) {
            return counted(INVALID);
        }
        if (through.home.freed || target.writeViolation(pointer, calls) != ALLOWED) {
            return NONE;
        }
        return target.size - target.keptByWrite(pointer);
    }

    // ---- stacks and pointers

    public int stackSize(int allocation, int cell) {
        Cell target = cellAt(allocation, cell);
        return target == null ? counted(INVALID) : target.size;
    }

    public int itemTag(int allocation, int cell, int index) {
        Cell target = cellAt(allocation, cell);
        if (target == null || !target.hasItem(index)) {
            return counted(INVALID);
        }
        return target.tags[index];
    }

    public int itemPermission(int allocation, int cell, int index) {
        Cell target = cellAt(allocation, cell);
        if (target == null || !target.hasItem(index)) {
            return counted(INVALID);
        }
        return target.permissions[index];
    }

    public int itemProtected(int allocation, int cell, int index) {
        Cell target = cellAt(allocation, cell);
        if (target == null || !target.hasItem(index)) {
            return counted(INVALID);
        }
        return asNumber(calls.isActive(target.protectors[index]));
    }

    public int allocationOf(int pointer) {
        Pointer asked = pointerAt(pointer);
        return asked == null ? counted(INVALID) : asked.home.number;
    }

    public int parent(int pointer) {
        Pointer asked = pointerAt(pointer);
        return asked == null ? counted(INVALID) : asked.origin;
    }

    public int liveCells(int pointer) {
        Pointer asked = pointerAt(pointer);
        return asked == null ? counted(INVALID) : asked.home.cellsAliveFor(pointer);
    }

    public int isFreed(int allocation) {
        Allocation asked = allocationAt(allocation);
        return asked == null ? counted(INVALID) : asNumber(asked.freed);
    }

    public int pointerCount() {
        return pointerTotal;
    }

    public int callDepth() {
        return calls.depth;
    }

    // ---- violations and errors

    public int violationCount() {
        return violations;
    }

    public int violationKind() {
        return latestKind;
    }

    public int violationCell() {
        return latestCell;
    }

    public int errorCount(int kind) {
        if (kind < 0 || kind >= ERROR_KINDS) {
            return counted(INVALID);
        }
        return errors[kind];
    }

    // ---- scripts

    public int append(int value) {
        if (value < 0 || value > MAX_BYTE) {
            return counted(INVALID);
        }
        return script.addByte(value) ? script.length : counted(FULL);
    }

    public int clearText() {
        int previous = script.length;
        script.length = 0;
        return previous;
    }

    public int runScript() {
        int wrongAt = script.parse();
        if (wrongAt != NONE) {
            return SYNTAX_BASE - wrongAt;
        }
        for (int i = 0; i < script.commandTotal; i++) {
            if (isFailure(performCommand(i))) {
                return STOP_BASE - i;
            }
        }
        return script.commandTotal;
    }

    public long digest() {
        long hash = DIGEST_START;
        for (int i = 0; i < ERROR_KINDS; i++) {
            hash = mixed(hash, errors[i]);
        }
        hash = mixed(hash, script.length);
        hash = mixed(hash, violations);
        hash = mixed(hash, latestKind);
        hash = mixed(hash, latestCell);
        hash = mixed(hash, calls.depth);
        hash = mixed(hash, allocationTotal);
        for (int i = 0; i < allocationTotal; i++) {
            Allocation one = allocationAt(i);
            hash = one == null ? hash : one.mixedInto(hash, calls);
        }
        hash = mixed(hash, pointerTotal);
        for (int i = 0; i < pointerTotal; i++) {
            hash = mixed(hash, allocationOf(i));
            hash = mixed(hash, parent(i));
            hash = mixed(hash, liveCells(i));
        }
        return hash;
    }

    // ---- the operations without the error counters, which scripts must not change

    private int performAllocate(int cells) {
        if (cells < 1 || cells > MAX_CELLS) {
            return INVALID;
        }
        if (allocationTotal >= MAX_ALLOCATIONS || pointerTotal >= MAX_POINTERS) {
            return FULL;
        }
        Allocation made = new Allocation(allocationTotal, cells, pointerTotal);
        allocations[allocationTotal] = made;
        allocationTotal++;
        return addPointer(made, NONE);
    }

    private int performRead(int pointer, int cell) {
        Pointer through = pointerAt(pointer);
        Cell target = cellThrough(through, cell);
        if (through == null || target == null) {
            return INVALID;
        }
        if (through.home.freed) {
            return violated(FREED, cell);
        }
        int violation = target.readViolation(pointer, calls);
        if (violation != ALLOWED) {
            return violated(violation, cell);
        }
        target.applyRead(pointer);
        return target.value;
    }

    private int performWrite(int pointer, int cell, int value) {
        Pointer through = pointerAt(pointer);
        Cell target = cellThrough(through, cell);
        if (through == null || target == null || value < 0 || value > MAX_VALUE) {
            return INVALID;
        }
        if (through.home.freed) {
            return violated(FREED, cell);
        }
        int violation = target.writeViolation(pointer, calls);
        if (violation != ALLOWED) {
            return violated(violation, cell);
        }
        target.applyWrite(pointer);
        int previous = target.value;
        target.value = value;
        return previous;
    }

    private int performReborrow(int pointer, int kind, int from, int count, int protect) {
        Pointer through = pointerAt(pointer);
        if (through == null || kind < MUTABLE || kind > RAW || protect < 0 || protect > 1) {
            return INVALID;
        }
        Allocation home = through.home;
        if (!home.hasRange(from, count)) {
            return INVALID;
        }
        if (protect == 1 && calls.depth == 0) {
            return REJECTED;
        }
        if (home.freed) {
            return violated(FREED, from);
        }
        boolean room = pointerTotal < MAX_POINTERS;
        for (int i = from; i < from + count; i++) {
            int violation = home.cells[i].reborrowViolation(kind, pointer, calls);
            if (violation != ALLOWED) {
                return violated(violation, i);
            }
            // A later cell may still be a violation, and that is told before FULL.
            room = room && home.cells[i].hasRoomToReborrow(kind, pointer);
        }
        if (!room) {
            return FULL;
        }
        int protector = protect == 1 ? calls.innermost() : NO_PROTECTOR;
        for (int i = from; i < from + count; i++) {
            home.cells[i].applyReborrow(kind, pointer, pointerTotal, protector);
        }
        return addPointer(home, pointer);
    }

    private int performFree(int pointer) {
        Pointer through = pointerAt(pointer);
        if (through == null) {
            return INVALID;
        }
        Allocation home = through.home;
        if (home.freed) {
            return violated(FREED, 0);
        }
        int violation = home.freeViolation(pointer, calls);
        if (violation != ALLOWED) {
            return violated(violation, home.firstCellAgainstFree(pointer, calls));
        }
        home.freed = true;
        return home.cells.length;
    }

    private int performEnter() {
        return calls.enter() ? calls.depth : FULL;
    }

    private int performLeave() {
        return calls.leave() ? calls.depth : REJECTED;
    }

    private int performCommand(int index) {
        int first = script.argument(index, 0);
        int second = script.argument(index, 1);
        int third = script.argument(index, 2);
        switch (script.letter(index)) {
            case 'a':
                return performAllocate(first);
            case 'r':
                return performRead(first, second);
            case 'w':
                return performWrite(first, second, third);
            case 'm':
                return performReborrow(first, MUTABLE, second, third, 0);
            case 's':
                return performReborrow(first, SHARED, second, third, 0);
            case 'p':
                return performReborrow(first, RAW, second, third, 0);
            case 'f':
                return performFree(first);
            case 'e':
                return performEnter();
            case 'l':
                return performLeave();
            default:
                return INVALID;
        }
    }

    // ---- what the operations share

    private int counted(int answer) {
        // INVALID, REJECTED and FULL are consecutive, in the order of their counters.
        int kind = INVALID - answer;
        if (kind >= 0 && kind < ERROR_KINDS) {
            errors[kind]++;
        }
        return answer;
    }

    private int violated(int kind, int cell) {
        violations++;
        latestKind = kind;
        latestCell = cell;
        return UNDEFINED;
    }

    private int addPointer(Allocation home, int origin) {
        int number = pointerTotal;
        if (number >= MAX_POINTERS) {
            return FULL;
        }
        pointers[number] = new Pointer(home, origin);
        pointerTotal++;
        return number;
    }

    private Pointer pointerAt(int number) {
        return number >= 0 && number < pointerTotal ? pointers[number] : null;
    }

    private Allocation allocationAt(int number) {
        return number >= 0 && number < allocationTotal ? allocations[number] : null;
    }

    private Cell cellAt(int allocation, int cell) {
        Allocation home = allocationAt(allocation);
        return home != null && home.hasRange(cell, 1) ? home.cells[cell] : null;
    }

    private static Cell cellThrough(Pointer pointer, int cell) {
        return pointer != null && pointer.home.hasRange(cell, 1) ? pointer.home.cells[cell] : null;
    }

    private static boolean isFailure(int answer) {
        return answer == INVALID || answer == REJECTED || answer == FULL || answer == UNDEFINED;
    }

    private static int asNumber(boolean holds) {
        return holds ? 1 : 0;
    }

    private static long mixed(long hash, long value) {
        return DIGEST_FACTOR * hash + value;
    }

    /** The active calls. Each entered call has a serial number that no other call ever gets. */
    private static final class Calls {
        private final int[] serials = new int[MAX_CALLS];
        private int depth;
        // Starts behind NO_PROTECTOR, so that no call has that number.
        private int latestSerial = NO_PROTECTOR;

        Calls() {
        }

        boolean enter() {
            if (depth >= MAX_CALLS) {
                return false;
            }
            latestSerial++;
            serials[depth] = latestSerial;
            depth++;
            return true;
        }

        boolean leave() {
            if (depth == 0) {
                return false;
            }
            depth--;
            return true;
        }

        int innermost() {
            return depth > 0 ? serials[depth - 1] : NO_PROTECTOR;
        }

        boolean isActive(int serial) {
            for (int i = 0; i < depth; i++) {
                if (serials[i] == serial) {
                    return true;
                }
            }
            return false;
        }
    }

    /** A pointer; its number, which is its tag, is its place in the row of pointers. */
    private static final class Pointer {
        private final Allocation home;
        private final int origin;

        Pointer(Allocation home, int origin) {
            this.home = home;
            this.origin = origin;
        }
    }

    /** A piece of memory. */
    private static final class Allocation {
        private final int number;
        private final Cell[] cells;
        private boolean freed;

        /** The caller has looked that cellCount is 1 to MAX_CELLS. */
        Allocation(int number, int cellCount, int tag) {
            this.number = number;
            cells = new Cell[cellCount];
            for (int i = 0; i < cellCount; i++) {
                cells[i] = new Cell(tag);
            }
        }

        boolean hasRange(int from, int count) {
            // from + count could overflow; cells.length - from can't once from is in range.
            return from >= 0 && from < cells.length && count >= 1 && count <= cells.length - from;
        }

        /** What freeing would be, cell by cell with rising index; the caller has looked that it is not freed. */
        int freeViolation(int tag, Calls calls) {
            for (int i = 0; i < cells.length; i++) {
                int violation = cells[i].freeViolation(tag, calls);
                if (violation != ALLOWED) {
                    return violation;
                }
            }
            return ALLOWED;
        }

        int firstCellAgainstFree(int tag, Calls calls) {
            for (int i = 0; i < cells.length; i++) {
                if (cells[i].freeViolation(tag, calls) != ALLOWED) {
                    return i;
                }
            }
            return NONE;
        }

        int cellsAliveFor(int tag) {
            if (freed) {
                return 0;
            }
            int alive = 0;
            for (int i = 0; i < cells.length; i++) {
                if (cells[i].grantOfRead(tag) != NONE) {
                    alive++;
                }
            }
            return alive;
        }

        long mixedInto(long start, Calls calls) {
            long hash = mixed(start, cells.length);
            hash = mixed(hash, asNumber(freed));
            for (int i = 0; i < cells.length; i++) {
                hash = cells[i].mixedInto(hash, calls);
            }
            return hash;
        }
    }

    /** A cell of memory: its value, and its stack of items with the bottom at index 0. */
    private static final class Cell {
        private final int[] tags = new int[MAX_ITEMS];
        private final int[] permissions = new int[MAX_ITEMS];
        private final int[] protectors = new int[MAX_ITEMS];
        private int size;
        private int value;

        Cell(int tag) {
            tags[0] = tag;
            permissions[0] = UNIQUE;
            protectors[0] = NO_PROTECTOR;
            size = 1;
        }

        boolean hasItem(int index) {
            return index >= 0 && index < size;
        }

        int grantOfRead(int tag) {
            for (int i = size - 1; i >= 0; i--) {
                if (tags[i] == tag && permissions[i] != DISABLED) {
                    return i;
                }
            }
            return NONE;
        }

        int grantOfWrite(int tag) {
            for (int i = size - 1; i >= 0; i--) {
                if (tags[i] == tag && (permissions[i] == UNIQUE || permissions[i] == SHARED_READ_WRITE)) {
                    return i;
                }
            }
            return NONE;
        }

        /** How many items from the bottom a write leaves, if it is granted; a raw item goes in there, too. */
        int keptByWrite(int tag) {
            int grant = grantOfWrite(tag);
            if (grant == NONE) {
                return size;
            }
            int kept = grant + 1;
            if (permissions[grant] == SHARED_READ_WRITE) {
                while (kept < size && permissions[kept] == SHARED_READ_WRITE) {
                    kept++;
                }
            }
            return kept;
        }

        int readViolation(int tag, Calls calls) {
            int grant = grantOfRead(tag);
            if (grant == NONE) {
                return NO_PERMISSION;
            }
            for (int i = grant + 1; i < size; i++) {
                if (permissions[i] == UNIQUE && calls.isActive(protectors[i])) {
                    return PROTECTED;
                }
            }
            return ALLOWED;
        }

        int writeViolation(int tag, Calls calls) {
            if (grantOfWrite(tag) == NONE) {
                return NO_PERMISSION;
            }
            return hasProtectedFrom(keptByWrite(tag), calls) ? PROTECTED : ALLOWED;
        }

        int freeViolation(int tag, Calls calls) {
            if (grantOfWrite(tag) == NONE) {
                return NO_PERMISSION;
            }
            // What the write would remove is part of the whole stack, and both tell the same kind.
            return hasProtectedFrom(0, calls) ? PROTECTED : ALLOWED;
        }

        int reborrowViolation(int kind, int tag, Calls calls) {
            if (kind == MUTABLE) {
                return writeViolation(tag, calls);
            }
            if (kind == SHARED) {
                return readViolation(tag, calls);
            }
            return grantOfWrite(tag) == NONE ? NO_PERMISSION : ALLOWED;
        }

        boolean hasProtectedFrom(int index, Calls calls) {
            for (int i = index; i < size; i++) {
                if (calls.isActive(protectors[i])) {
                    return true;
                }
            }
            return false;
        }

        boolean hasRoomToReborrow(int kind, int tag) {
            int sizeBefore = kind == MUTABLE ? keptByWrite(tag) : size;
            return sizeBefore < MAX_ITEMS;
        }

        void applyRead(int tag) {
            int grant = grantOfRead(tag);
            if (grant == NONE) {
                return;
            }
            for (int i = grant + 1; i < size; i++) {
                if (permissions[i] == UNIQUE) {
                    permissions[i] = DISABLED;
                }
            }
        }

        void applyWrite(int tag) {
            size = keptByWrite(tag);
        }

        void applyReborrow(int kind, int tag, int newTag, int protector) {
            if (kind == MUTABLE) {
                applyWrite(tag);
                insertItem(size, newTag, UNIQUE, protector);
            } else if (kind == SHARED) {
                applyRead(tag);
                insertItem(size, newTag, SHARED_READ_ONLY, protector);
            } else {
                insertItem(keptByWrite(tag), newTag, SHARED_READ_WRITE, protector);
            }
        }

        void insertItem(int index, int tag, int permission, int protector) {
            if (index < 0 || index > size || size >= MAX_ITEMS) {
                return;
            }
            for (int i = size; i > index; i--) {
                tags[i] = tags[i - 1];
                permissions[i] = permissions[i - 1];
                protectors[i] = protectors[i - 1];
            }
            tags[index] = tag;
            permissions[index] = permission;
            protectors[index] = protector;
            size++;
        }

        long mixedInto(long start, Calls calls) {
            long hash = mixed(start, value);
            hash = mixed(hash, size);
            for (int i = 0; i < size; i++) {
                hash = mixed(hash, tags[i]);
                hash = mixed(hash, permissions[i]);
                hash = mixed(hash, asNumber(calls.isActive(protectors[i])));
            }
            return hash;
        }
    }

    /** The text buffer, and the commands that its latest parse has found. */
    private static final class Script {
        private final int[] text = new int[MAX_TEXT];
        private int length;
        private final int[] letters = new int[MAX_COMMANDS];
        private final int[] arguments = new int[MAX_COMMANDS * MAX_ARGUMENTS];
        private int commandTotal;
        private int position;

        Script() {
        }

        boolean addByte(int value) {
            if (length >= MAX_TEXT) {
                return false;
            }
            text[length] = value;
            length++;
            return true;
        }

        int letter(int command) {
            return command >= 0 && command < commandTotal ? letters[command] : NONE;
        }

        int argument(int command, int place) {
            boolean exists = command >= 0 && command < commandTotal && place >= 0 && place < MAX_ARGUMENTS;
            return exists ? arguments[command * MAX_ARGUMENTS + place] : NONE;
        }

        /** Answers the position of the syntax error, NONE if there is no error. */
        int parse() {
            commandTotal = 0;
            position = 0;
            skipSpaces();
            boolean sound = parseCommand();
            for (int i = 1; i < MAX_COMMANDS && sound && position < length; i++) {
                sound = parseCommand();
            }
            return sound ? NONE : position;
        }

        // The parsers below leave the position at the wrong byte if they answer false.

        private boolean parseCommand() {
            int letter = byteHere();
            int wanted = argumentsOf(letter);
            if (wanted == NONE || commandTotal >= MAX_COMMANDS) {
                return false;
            }
            position++;
            skipSpaces();
            for (int i = 0; i < wanted; i++) {
                if (!parseArgument(commandTotal * MAX_ARGUMENTS + i)) {
                    return false;
                }
            }
            if (byteHere() != ';') {
                return false;
            }
            position++;
            skipSpaces();
            letters[commandTotal] = letter;
            commandTotal++;
            return true;
        }

        private boolean parseArgument(int place) {
            if (!isDigitHere()) {
                return false;
            }
            int number = byteHere() - '0';
            position++;
            if (isDigitHere()) {
                number = 10 * number + byteHere() - '0';
                position++;
            }
            if (isDigitHere()) {
                return false;
            }
            skipSpaces();
            arguments[place] = number;
            return true;
        }

        private void skipSpaces() {
            while (position < length && text[position] == ' ') {
                position++;
            }
        }

        private int byteHere() {
            return position < length ? text[position] : NONE;
        }

        private boolean isDigitHere() {
            int here = byteHere();
            return here >= '0' && here <= '9';
        }

        private static int argumentsOf(int letter) {
            switch (letter) {
                case 'e':
                case 'l':
                    return 0;
                case 'a':
                case 'f':
                    return 1;
                case 'r':
                    return 2;
                case 'w':
                case 'm':
                case 's':
                case 'p':
                    return 3;
                default:
                    return NONE;
            }
        }
    }
}
