import java.util.ArrayList;
import java.util.List;
import java.util.SplittableRandom;
import java.util.regex.Matcher;
import java.util.regex.Pattern;

/**
 * Runs long mixed calls (always the same ones) on the program and on a second, slow writing of the document,
 * which tries each operation on a copy of its state and throws the copy away if the operation fails.
 */
public final class ModelTest {
    private static final int OBJECTS = 3000;
    // The document leaves open what an object answers behind its call 512.
    private static final int CALLS = 512;
    private static final int MOST_CALLS_OF_A_STEP = 110;

    public static void main(String[] args) {
        int[] seen = new int[6];
        for (int seed = 0; seed < OBJECTS; seed++) {
            String fault = new Run(seed, seen).go();
            if (fault != null) {
                System.out.println("seed " + seed + ": " + fault);
                System.exit(1);
            }
        }
        String[] names = {"other answers", "NONE", "INVALID", "REJECTED", "FULL", "UNDEFINED"};
        for (int i = 0; i < names.length; i++) {
            System.out.println(names[i] + ": " + seen[i]);
            if (seen[i] < 1000) {
                System.out.println("too few of them: the calls do not try enough");
                System.exit(1);
            }
        }
        System.out.println("program and model agree");
    }

    private static final class Run {
        final SplittableRandom random;
        final BorrowStacks program = new BorrowStacks();
        final Model model = new Model();
        final int[] seen;
        final int taste;
        int calls;

        Run(int seed, int[] seen) {
            random = new SplittableRandom(seed);
            this.seen = seen;
            taste = random.nextInt(4);
        }

        String go() {
            for (int i = 0; calls + MOST_CALLS_OF_A_STEP <= CALLS; i++) {
                String fault = random.nextInt(100) < 4 ? scriptStep() : step();
                if (fault != null) return "step " + i + ": " + fault;
                long got = program.digest();
                calls++;
                long want = model.digest();
                if (got != want) return "step " + i + ": digest " + got + ", due is " + want;
            }
            return null;
        }

        int some(int bound) {
            int pick = random.nextInt(60);
            if (pick == 0) return -1;
            if (pick == 1) return bound;
            if (pick == 2) return random.nextInt();
            return bound <= 0 ? 0 : random.nextInt(bound);
        }

        int somePointer() {
            int count = model.now.pointers.size();
            if (count > 4 && random.nextInt(3) > 0) return count - 1 - random.nextInt(4);
            return some(count);
        }

        int cellsOf(int pointer) {
            if (pointer < 0 || pointer >= model.now.pointers.size()) return 8;
            return model.now.allocations.get(model.now.pointers.get(pointer)[0]).cells.size();
        }

        String step() {
            int p = somePointer();
            int cells = cellsOf(p);
            int cell = some(cells);
            int a = some(model.now.allocations.size());
            int roll = random.nextInt(100);
            if (roll < 4) {
                int n = taste == 0 ? 1 : 1 + some(8);
                return same("allocate " + n, program.allocate(n), model.counted(model.tried(() -> model.allocate(n))));
            }
            if (roll < 14) {
                return same("read " + p + " " + cell, program.read(p, cell), model.counted(model.tried(() -> model.read(p, cell))));
            }
            if (roll < 22) {
                int v = some(100);
                return same("write " + p + " " + cell + " " + v, program.write(p, cell, v), model.counted(model.tried(() -> model.write(p, cell, v))));
            }
            if (roll < 56) {
                int kind = taste == 1 ? 2 : taste == 2 && random.nextBoolean() ? 0 : some(3);
                int count = 1 + some(cells <= 0 || cell < 0 || cell >= cells ? 2 : cells - cell);
                int protect = some(2);
                return same("reborrow " + p + " " + kind + " " + cell + " " + count + " " + protect,
                        program.reborrow(p, kind, cell, count, protect),
                        model.counted(model.tried(() -> model.reborrow(p, kind, cell, count, protect))));
            }
            if (roll < 57) return same("free " + p, program.free(p), model.counted(model.tried(() -> model.free(p))));
            if (roll < 62) return same("enterCall", program.enterCall(), model.counted(model.tried(model::enter)));
            if (roll < 67) return same("leaveCall", program.leaveCall(), model.counted(model.tried(model::leave)));
            if (roll < 71) return same("checkRead " + p + " " + cell, program.checkRead(p, cell), model.counted(model.asked(() -> model.read(p, cell))));
            if (roll < 75) return same("checkWrite " + p + " " + cell, program.checkWrite(p, cell), model.counted(model.asked(() -> model.write(p, cell, 0))));
            if (roll < 77) return same("checkFree " + p, program.checkFree(p), model.counted(model.asked(() -> model.free(p))));
            if (roll < 80) return same("removedByWrite " + p + " " + cell, program.removedByWrite(p, cell), model.counted(model.removed(p, cell)));
            if (roll < 82) return same("stackSize " + a + " " + cell, program.stackSize(a, cell), model.counted(model.size(a, cell)));
            int index = some(13);
            if (roll < 84) return same("itemTag", program.itemTag(a, cell, index), model.counted(model.item(a, cell, index, 0)));
            if (roll < 86) return same("itemPermission", program.itemPermission(a, cell, index), model.counted(model.item(a, cell, index, 1)));
            if (roll < 88) return same("itemProtected", program.itemProtected(a, cell, index), model.counted(model.item(a, cell, index, 2)));
            if (roll < 90) return same("allocationOf " + p, program.allocationOf(p), model.counted(model.ofPointer(p, 0)));
            if (roll < 92) return same("parent " + p, program.parent(p), model.counted(model.ofPointer(p, 1)));
            if (roll < 94) return same("liveCells " + p, program.liveCells(p), model.counted(model.ofPointer(p, 2)));
            if (roll < 95) return same("isFreed " + a, program.isFreed(a), model.counted(model.freedNow(a)));
            if (roll < 96) return same("pointerCount", program.pointerCount(), model.now.pointers.size());
            if (roll < 97) return same("callDepth", program.callDepth(), model.now.calls.size());
            if (roll < 98) return same("violationKind", program.violationKind(), model.kind);
            if (roll < 99) return same("violationCell", program.violationCell(), model.cell);
            int e = some(3);
            return same("errorCount " + e, program.errorCount(e), e < 0 || e > 2 ? model.counted(-2) : model.errors[e]);
        }

        String scriptStep() {
            int commands = 1 + random.nextInt(6);
            StringBuilder text = new StringBuilder();
            for (int i = 0; i < commands; i++) text.append(command());
            int harm = random.nextInt(6);
            if (harm == 0 && text.length() > 0) text.setLength(random.nextInt(text.length()));
            if (harm == 1) text.insert(random.nextInt(text.length() + 1), " 0;9aerwx\0".charAt(random.nextInt(10)));
            if (harm == 2) text.deleteCharAt(random.nextInt(text.length()));
            String fault = null;
            if (random.nextInt(4) > 0) {
                fault = same("clearText", program.clearText(), model.clear());
            }
            for (int i = 0; i < text.length() && fault == null; i++) {
                int value = text.charAt(i);
                fault = same("append " + value, program.append(value), model.counted(model.append(value)));
            }
            if (fault != null) return fault;
            return same("runScript '" + model.text + "'", program.runScript(), model.run());
        }

        String command() {
            int p = random.nextInt(Math.max(1, model.now.pointers.size()) + (random.nextInt(9) == 0 ? 1 : 0));
            int cells = cellsOf(p);
            int from = random.nextInt(cells);
            int count = 1 + random.nextInt(cells - from);
            String s = " ".repeat(random.nextInt(8) / 6);
            String g = " ".repeat(1 + random.nextInt(8) / 7);
            char letter = "arwmspfel".charAt(random.nextInt(9));
            switch (letter) {
                case 'a': return s + "a" + s + random.nextInt(10) + s + ";" + s;
                case 'r': return "r" + s + p + g + from + ";" + s;
                case 'w': return s + "w" + p + g + from + " " + random.nextInt(100) + s + ";";
                case 'f': return "f" + s + p + ";";
                case 'e':
                case 'l': return s + letter + s + ";" + s;
                default: return letter + s + p + g + from + g + count + s + ";" + s;
            }
        }

        String same(String what, int got, int want) {
            calls++;
            seen[want >= 0 || want < -5 ? 0 : -want]++;
            return got == want ? null : what + " answered " + got + ", due is " + want;
        }
    }

    /** An operation that fails throws this. */
    private static final class Failure extends RuntimeException {
        private static final long serialVersionUID = 1L;
        final int code;
        final int kind;
        final int cell;

        Failure(int code, int kind, int cell) {
            super(null, null, false, false);
            this.code = code;
            this.kind = kind;
            this.cell = cell;
        }
    }

    private interface Operation {
        int answer();
    }

    private static final class Item {
        final int tag;
        final char permission;
        final Object protector;

        Item(int tag, char permission, Object protector) {
            this.tag = tag;
            this.permission = permission;
            this.protector = protector;
        }
    }

    private static final class Block {
        final List<List<Item>> cells = new ArrayList<>();
        final List<Integer> values = new ArrayList<>();
        boolean freed;

        Block copy() {
            Block made = new Block();
            for (List<Item> stack : cells) made.cells.add(new ArrayList<>(stack));
            made.values.addAll(values);
            made.freed = freed;
            return made;
        }
    }

    private static final class State {
        final List<Block> allocations = new ArrayList<>();
        final List<int[]> pointers = new ArrayList<>();
        final List<Object> calls = new ArrayList<>();

        State copy() {
            State made = new State();
            for (Block block : allocations) made.allocations.add(block.copy());
            made.pointers.addAll(pointers);
            made.calls.addAll(calls);
            return made;
        }
    }

    private static final class Model {
        static final String PERMISSIONS = "UWRD";
        static final Pattern SCRIPT = Pattern.compile(
                " *(?:(?:[el] *|[af] *[0-9]{1,2} *|r *[0-9]{1,2} +[0-9]{1,2} *"
                + "|[wmsp] *[0-9]{1,2} +[0-9]{1,2} +[0-9]{1,2} *); *)+");
        State now = new State();
        final int[] errors = new int[3];
        int count;
        int kind;
        int cell = -1;
        String text = "";

        int counted(int answer) {
            if (answer == -2) errors[0]++;
            if (answer == -3) errors[1]++;
            if (answer == -4) errors[2]++;
            return answer;
        }

        int tried(Operation operation) {
            State before = now;
            now = now.copy();
            try {
                return operation.answer();
            } catch (Failure failure) {
                now = before;
                if (failure.code == -5) {
                    count++;
                    kind = failure.kind;
                    cell = failure.cell;
                }
                return failure.code;
            }
        }

        /** What the operation would be: 0 or the kind of its violation. */
        int asked(Operation operation) {
            State before = now;
            now = now.copy();
            try {
                operation.answer();
                return 0;
            } catch (Failure failure) {
                return failure.code == -5 ? failure.kind : failure.code;
            } finally {
                now = before;
            }
        }

        static void refuse(boolean condition, int code) {
            if (condition) throw new Failure(code, 0, 0);
        }

        Block home(int pointer) {
            refuse(pointer < 0 || pointer >= now.pointers.size(), -2);
            return now.allocations.get(now.pointers.get(pointer)[0]);
        }

        static void refuseCell(Block block, int cell) {
            refuse(cell < 0 || cell >= block.cells.size(), -2);
        }

        static void refuseFreed(Block block, int cell) {
            if (block.freed) throw new Failure(-5, 3, cell);
        }

        boolean isProtected(Item item) {
            return item.protector != null && now.calls.contains(item.protector);
        }

        static int granting(List<Item> stack, int tag, String permissions, int cell) {
            int found = -1;
            for (int i = 0; i < stack.size(); i++) {
                Item item = stack.get(i);
                if (item.tag == tag && permissions.indexOf(item.permission) >= 0) found = i;
            }
            if (found < 0) throw new Failure(-5, 1, cell);
            return found;
        }

        static int above(List<Item> stack, int granting) {
            int place = granting + 1;
            if (stack.get(granting).permission == 'U') return place;
            while (place < stack.size() && stack.get(place).permission == 'W') place++;
            return place;
        }

        void readAccess(Block block, int tag, int cell) {
            List<Item> stack = block.cells.get(cell);
            for (int i = granting(stack, tag, "UWR", cell) + 1; i < stack.size(); i++) {
                Item item = stack.get(i);
                if (item.permission != 'U') continue;
                if (isProtected(item)) throw new Failure(-5, 2, cell);
                stack.set(i, new Item(item.tag, 'D', item.protector));
            }
        }

        void writeAccess(Block block, int tag, int cell) {
            List<Item> stack = block.cells.get(cell);
            int keep = above(stack, granting(stack, tag, "UW", cell));
            while (stack.size() > keep) {
                if (isProtected(stack.remove(keep))) throw new Failure(-5, 2, cell);
            }
        }

        int allocate(int cells) {
            refuse(cells < 1 || cells > 8, -2);
            refuse(now.allocations.size() == 10 || now.pointers.size() == 60, -4);
            int tag = now.pointers.size();
            Block made = new Block();
            for (int i = 0; i < cells; i++) {
                made.cells.add(new ArrayList<>(List.of(new Item(tag, 'U', null))));
                made.values.add(0);
            }
            now.pointers.add(new int[] {now.allocations.size(), -1});
            now.allocations.add(made);
            return tag;
        }

        int read(int pointer, int cell) {
            Block block = home(pointer);
            refuseCell(block, cell);
            refuseFreed(block, cell);
            readAccess(block, pointer, cell);
            return block.values.get(cell);
        }

        int write(int pointer, int cell, int value) {
            Block block = home(pointer);
            refuseCell(block, cell);
            refuse(value < 0 || value > 99, -2);
            refuseFreed(block, cell);
            writeAccess(block, pointer, cell);
            return block.values.set(cell, value);
        }

        int reborrow(int pointer, int kind, int from, int count, int protect) {
            Block block = home(pointer);
            refuse(kind < 0 || kind > 2 || protect < 0 || protect > 1 || from < 0 || count < 1, -2);
            refuse((long) from + count > block.cells.size(), -2);
            refuse(protect == 1 && now.calls.isEmpty(), -3);
            refuseFreed(block, from);
            int tag = now.pointers.size();
            Object protector = protect == 0 ? null : now.calls.get(now.calls.size() - 1);
            for (int i = from; i < from + count; i++) {
                List<Item> stack = block.cells.get(i);
                if (kind == 0) writeAccess(block, pointer, i);
                if (kind == 1) readAccess(block, pointer, i);
                int place = kind == 2 ? above(stack, granting(stack, pointer, "UW", i)) : stack.size();
                stack.add(place, new Item(tag, "URW".charAt(kind), protector));
            }
            for (List<Item> stack : block.cells) refuse(stack.size() > 12, -4);
            refuse(tag == 60, -4);
            now.pointers.add(new int[] {now.pointers.get(pointer)[0], pointer});
            return tag;
        }

        int free(int pointer) {
            Block block = home(pointer);
            refuseFreed(block, 0);
            Block kept = block.copy();
            for (int i = 0; i < block.cells.size(); i++) {
                writeAccess(block, pointer, i);
                for (Item item : kept.cells.get(i)) {
                    if (isProtected(item)) throw new Failure(-5, 2, i);
                }
            }
            kept.freed = true;
            now.allocations.set(now.pointers.get(pointer)[0], kept);
            return kept.cells.size();
        }

        int enter() {
            refuse(now.calls.size() == 5, -4);
            now.calls.add(new Object());
            return now.calls.size();
        }

        int leave() {
            refuse(now.calls.isEmpty(), -3);
            now.calls.remove(now.calls.size() - 1);
            return now.calls.size();
        }

        int removed(int pointer, int cell) {
            int answer = asked(() -> write(pointer, cell, 0));
            if (answer != 0) return answer < 0 ? answer : -1;
            State before = now;
            int size = home(pointer).cells.get(cell).size();
            now = now.copy();
            write(pointer, cell, 0);
            int left = home(pointer).cells.get(cell).size();
            now = before;
            return size - left;
        }

        int size(int allocation, int cell) {
            if (allocation < 0 || allocation >= now.allocations.size()) return -2;
            List<List<Item>> cells = now.allocations.get(allocation).cells;
            return cell < 0 || cell >= cells.size() ? -2 : cells.get(cell).size();
        }

        int item(int allocation, int cell, int index, int what) {
            int size = size(allocation, cell);
            if (index < 0 || index >= size) return -2;
            Item item = now.allocations.get(allocation).cells.get(cell).get(index);
            if (what == 0) return item.tag;
            if (what == 1) return PERMISSIONS.indexOf(item.permission);
            return isProtected(item) ? 1 : 0;
        }

        int ofPointer(int pointer, int what) {
            if (pointer < 0 || pointer >= now.pointers.size()) return -2;
            if (what < 2) return now.pointers.get(pointer)[what];
            Block block = home(pointer);
            if (block.freed) return 0;
            int live = 0;
            for (List<Item> stack : block.cells) {
                if (stack.stream().anyMatch(item -> item.tag == pointer && item.permission != 'D')) live++;
            }
            return live;
        }

        int freedNow(int allocation) {
            if (allocation < 0 || allocation >= now.allocations.size()) return -2;
            return now.allocations.get(allocation).freed ? 1 : 0;
        }

        int append(int value) {
            if (value < 0 || value > 127) return -2;
            if (text.length() == 120) return -4;
            text += (char) value;
            return text.length();
        }

        int clear() {
            int length = text.length();
            text = "";
            return length;
        }

        int run() {
            for (int p = 1; p <= text.length(); p++) {
                Matcher matcher = SCRIPT.matcher(text.substring(0, p));
                if (!matcher.matches() && !matcher.hitEnd()) return -10 - (p - 1);
            }
            if (!SCRIPT.matcher(text).matches()) return -10 - text.length();
            String[] commands = text.strip().split(";");
            for (int i = 0; i < commands.length; i++) {
                String command = commands[i].strip();
                String[] words = command.substring(1).strip().split(" +");
                int[] n = new int[3];
                for (int k = 0; k < words.length && !words[k].isEmpty(); k++) n[k] = Integer.parseInt(words[k]);
                if (execute(command.charAt(0), n) < 0) return -1000 - i;
            }
            return commands.length;
        }

        int execute(char letter, int[] n) {
            switch (letter) {
                case 'a': return tried(() -> allocate(n[0]));
                case 'r': return tried(() -> read(n[0], n[1]));
                case 'w': return tried(() -> write(n[0], n[1], n[2]));
                case 'm':
                case 's':
                case 'p': return tried(() -> reborrow(n[0], "msp".indexOf(letter), n[1], n[2], 0));
                case 'f': return tried(() -> free(n[0]));
                case 'e': return tried(this::enter);
                default: return tried(this::leave);
            }
        }

        long digest() {
            List<Integer> values = new ArrayList<>();
            for (int error : errors) values.add(error);
            values.addAll(List.of(text.length(), count, kind, cell, now.calls.size(), now.allocations.size()));
            for (int a = 0; a < now.allocations.size(); a++) {
                Block block = now.allocations.get(a);
                values.add(block.cells.size());
                values.add(freedNow(a));
                for (int c = 0; c < block.cells.size(); c++) {
                    values.add(block.values.get(c));
                    values.add(size(a, c));
                    for (int i = 0; i < size(a, c); i++) {
                        for (int what = 0; what < 3; what++) values.add(item(a, c, i, what));
                    }
                }
            }
            values.add(now.pointers.size());
            for (int p = 0; p < now.pointers.size(); p++) {
                for (int what = 0; what < 3; what++) values.add(ofPointer(p, what));
            }
            long h = 12011;
            for (int value : values) h = 31 * h + value;
            return h;
        }
    }
}
