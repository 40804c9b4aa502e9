/**
 * An optimizer for tables of error handlers: it finds what of the code can be reached, which
 * entries are used and where errors leave, and makes the table smaller without changing where
 * errors go.
 *
 * <p>Every row is made in the constructor and used again, so that no call makes anything but the
 * exception that it throws.
 */
public final class HandlerOptimizer {
    private static final int KIND_LIMIT = 8;
    private static final int CODE_LIMIT = 48;
    private static final int TABLE_LIMIT = 24;
    private static final int RUN_LIMIT = 500;

    // A round that drops or joins makes the table shorter; one that only shrinks is the last but
    // one. So no table needs more rounds than this.
    private static final int ROUND_LIMIT = TABLE_LIMIT + 2;

    private static final int NONE = -1;

    private static final int STEP = 0;
    private static final int JUMP = 1;
    private static final int BRANCH = 2;
    private static final int END = 3;
    private static final int RAISE = 4;

    private static final int OUTCOME_END = 0;
    private static final int OUTCOME_LEFT = 1;
    private static final int OUTCOME_STOPPED = 2;

    /** The tree of the kinds. */
    private static final class Kinds {
        private final int[] parents = new int[KIND_LIMIT];
        // For each kind the set of itself and of those below it: what an entry of it takes.
        private final int[] families = new int[KIND_LIMIT];
        private int count;

        private Kinds() {
            parents[0] = NONE;
            families[0] = 1;
            count = 1;
        }

        private boolean has(int kind) {
            return kind >= 0 && kind < count;
        }

        private boolean hasAll(int set) {
            return set >> count == 0;
        }

        private boolean isFull() {
            return count >= KIND_LIMIT;
        }

        private int append(int parent) {
            int kind = count;
            for (int above = 0; above < kind; above++) {
                if (isInFamily(parent, above)) {
                    families[above] |= 1 << kind;
                }
            }
            parents[kind] = parent;
            families[kind] = 1 << kind;
            count++;
            return kind;
        }

        private boolean isInFamily(int kind, int head) {
            return (families[head] >> kind & 1) != 0;
        }

        // A parent has a smaller number than its children: the lowest one is the greatest number.
        private int lowestAbove(int a, int b) {
            for (int kind = Math.min(a, b); kind > 0; kind--) {
                if (isInFamily(a, kind) && isInFamily(b, kind)) {
                    return kind;
                }
            }
            return 0;
        }
    }

    /** The row of instructions. */
    private static final class Code {
        private final int[] forms = new int[CODE_LIMIT];
        private final int[] thrown = new int[CODE_LIMIT];
        private final int[] targets = new int[CODE_LIMIT];
        private int count;

        private boolean has(int instruction) {
            return instruction >= 0 && instruction < count;
        }

        private boolean isFull() {
            return count >= CODE_LIMIT;
        }

        private int append(int form, int thrownSet, int target) {
            int instruction = count;
            forms[instruction] = form;
            thrown[instruction] = thrownSet;
            targets[instruction] = target;
            count++;
            return instruction;
        }

        private boolean canThrow(int instruction, int kind) {
            return (thrown[instruction] >> kind & 1) != 0;
        }

        // An END has one, too: which option it is given makes no difference there.
        private int normalOptions(int instruction) {
            switch (forms[instruction]) {
                case BRANCH:
                    return 2;
                case RAISE:
                    return 0;
                default:
                    return 1;
            }
        }

        private int normalNext(int instruction, int option) {
            boolean toTarget = forms[instruction] == JUMP || option > 0;
            return toTarget ? targets[instruction] : instruction + 1;
        }
    }

    /** The table of entries. */
    private static final class Table {
        private final int[] begins = new int[TABLE_LIMIT];
        private final int[] ends = new int[TABLE_LIMIT];
        private final int[] kinds = new int[TABLE_LIMIT];
        private final int[] targets = new int[TABLE_LIMIT];
        private int count;

        private boolean has(int entry) {
            return entry >= 0 && entry < count;
        }

        private boolean isFull() {
            return count >= TABLE_LIMIT;
        }

        private int append(int begin, int end, int kind, int target) {
            int entry = count;
            begins[entry] = begin;
            ends[entry] = end;
            kinds[entry] = kind;
            targets[entry] = target;
            count++;
            return entry;
        }

        private void copyEntry(Table source, int from, int to) {
            begins[to] = source.begins[from];
            ends[to] = source.ends[from];
            kinds[to] = source.kinds[from];
            targets[to] = source.targets[from];
        }

        private void copyAll(Table source) {
            for (int entry = 0; entry < source.count; entry++) {
                copyEntry(source, entry, entry);
            }
            count = source.count;
        }

        private void delete(int entry) {
            for (int later = entry + 1; later < count; later++) {
                copyEntry(this, later, later - 1);
            }
            count--;
        }

        private int firstTaker(Kinds tree, int instruction, int kind) {
            for (int entry = 0; entry < count; entry++) {
                boolean inRange = begins[entry] <= instruction && instruction < ends[entry];
                if (inRange && (tree.families[kinds[entry]] >> kind & 1) != 0) {
                    return entry;
                }
            }
            return NONE;
        }

        private int goal(Kinds tree, int instruction, int kind) {
            int entry = firstTaker(tree, instruction, kind);
            return entry == NONE ? NONE : targets[entry];
        }
    }

    private final Kinds kinds;
    private final Code code;
    private final Table table;

    // Where a joined table is tried before it takes the place of the table.
    private final Table trial;

    private final boolean[] reached;
    private final int[] reachedOrder;
    private int reachedCount;

    // For each entry the first instruction that uses it, and the one behind the last: 0 if unused.
    private final int[] firstUse;
    private final int[] behindLastUse;

    // For each pair of an instruction and a kind where the error goes, before entries are joined.
    private final int[] goals;

    private final int[] removedAhead;

    private int executedCount;
    private int takenCount;
    private int escapedKind;
    private long wayNumber;

    public HandlerOptimizer() {
        kinds = new Kinds();
        code = new Code();
        table = new Table();
        trial = new Table();
        reached = new boolean[CODE_LIMIT];
        reachedOrder = new int[CODE_LIMIT];
        firstUse = new int[TABLE_LIMIT];
        behindLastUse = new int[TABLE_LIMIT];
        goals = new int[CODE_LIMIT * KIND_LIMIT];
        removedAhead = new int[CODE_LIMIT + 1];
        escapedKind = NONE;
    }

    public int addKind(int parent) throws IndexOutOfBoundsException, IllegalStateException {
        requireKind(parent);
        if (kinds.isFull()) {
            throw new IllegalStateException("there are 8 kinds");
        }
        return kinds.append(parent);
    }

    public int kindCount() {
        return kinds.count;
    }

    public boolean isBelow(int a, int b) throws IndexOutOfBoundsException {
        requireKind(a);
        requireKind(b);
        return a != b && kinds.isInFamily(a, b);
    }

    public int common(int a, int b) throws IndexOutOfBoundsException {
        requireKind(a);
        requireKind(b);
        return kinds.lowestAbove(a, b);
    }

    public int step(int thrown) throws IllegalArgumentException, IllegalStateException {
        requireKindSet(thrown);
        requireRoomForCode();
        return code.append(STEP, thrown, NONE);
    }

    public int jump(int target) throws IllegalArgumentException, IllegalStateException {
        requireTarget(target);
        requireRoomForCode();
        return code.append(JUMP, 0, target);
    }

    public int branch(int thrown, int target)
            throws IllegalArgumentException, IllegalStateException {
        requireKindSet(thrown);
        requireTarget(target);
        requireRoomForCode();
        return code.append(BRANCH, thrown, target);
    }

    public int end() throws IllegalStateException {
        requireRoomForCode();
        return code.append(END, 0, NONE);
    }

    public int raise(int kind) throws IndexOutOfBoundsException, IllegalStateException {
        requireKind(kind);
        requireRoomForCode();
        return code.append(RAISE, 1 << kind, NONE);
    }

    public int size() {
        return code.count;
    }

    public int instruction(int instruction, int what) throws IndexOutOfBoundsException {
        requireInstruction(instruction);
        switch (what) {
            case 0:
                return code.forms[instruction];
            case 1:
                return code.thrown[instruction];
            case 2:
                return code.targets[instruction];
            default:
                throw new IndexOutOfBoundsException("what is not 0 to 2");
        }
    }

    public int addEntry(int from, int to, int kind, int target)
            throws IndexOutOfBoundsException, IllegalArgumentException, IllegalStateException {
        requireKind(kind);
        if (from < 0 || to > CODE_LIMIT || from >= to) {
            throw new IllegalArgumentException("no range");
        }
        requireTarget(target);
        if (table.isFull()) {
            throw new IllegalStateException("there are 24 entries");
        }
        return table.append(from, to, kind, target);
    }

    public int removeEntry(int entry) throws IndexOutOfBoundsException {
        requireEntry(entry);
        table.delete(entry);
        return table.count;
    }

    public int entryCount() {
        return table.count;
    }

    public int entry(int entry, int what) throws IndexOutOfBoundsException {
        requireEntry(entry);
        switch (what) {
            case 0:
                return table.begins[entry];
            case 1:
                return table.ends[entry];
            case 2:
                return table.kinds[entry];
            case 3:
                return table.targets[entry];
            default:
                throw new IndexOutOfBoundsException("what is not 0 to 3");
        }
    }

    public int taker(int instruction, int kind) throws IndexOutOfBoundsException {
        requireInstruction(instruction);
        requireKind(kind);
        return table.firstTaker(kinds, instruction, kind);
    }

    public boolean isReached(int instruction) throws IndexOutOfBoundsException {
        requireInstruction(instruction);
        findReached();
        return reached[instruction];
    }

    public boolean isUsed(int entry) throws IndexOutOfBoundsException {
        requireEntry(entry);
        findUses();
        return hasUse(entry);
    }

    public int leaving() {
        findReached();
        int set = 0;
        for (int instruction = 0; instruction < code.count; instruction++) {
            for (int kind = 0; kind < kinds.count; kind++) {
                if (isThrown(instruction, kind)
                        && table.firstTaker(kinds, instruction, kind) == NONE) {
                    set |= 1 << kind;
                }
            }
        }
        return set;
    }

    public double share() {
        findReached();
        int all = 0;
        int caught = 0;
        for (int instruction = 0; instruction < code.count; instruction++) {
            for (int kind = 0; kind < kinds.count; kind++) {
                if (isThrown(instruction, kind)) {
                    all++;
                    caught += table.firstTaker(kinds, instruction, kind) == NONE ? 0 : 1;
                }
            }
        }
        return all == 0 ? 0.0 : (double) caught / (double) all;
    }

    public int parts() {
        int count = 0;
        for (int instruction = 0; instruction < code.count; instruction++) {
            if (instruction == 0 || !goesLikeTheOneAhead(instruction)) {
                count++;
            }
        }
        return count;
    }

    public int drop() {
        findUses();
        int before = table.count;
        // From the last one on, so that the numbers of those still to be looked at stay.
        for (int entry = before - 1; entry >= 0; entry--) {
            if (!hasUse(entry)) {
                table.delete(entry);
            }
        }
        return before - table.count;
    }

    public int shrink() {
        findUses();
        int changed = 0;
        for (int entry = 0; entry < table.count; entry++) {
            if (hasUse(entry) && !isTight(entry)) {
                table.begins[entry] = firstUse[entry];
                table.ends[entry] = behindLastUse[entry];
                changed++;
            }
        }
        return changed;
    }

    public int join() {
        // A join keeps all goals, and so what is reached: both are found once for all joins.
        findReached();
        findGoals();
        int joins = 0;
        while (joins < TABLE_LIMIT && joinFirstPair()) {
            joins++;
        }
        return joins;
    }

    public int improve() {
        int rounds = 0;
        while (rounds < ROUND_LIMIT && drop() + shrink() + join() > 0) {
            rounds++;
        }
        return rounds;
    }

    public int sweep() {
        findReached();
        countRemovedAhead();
        sweepTable();
        int before = code.count;
        sweepCode();
        return before - code.count;
    }

    public int run(long choices, int most) throws IllegalArgumentException {
        if (choices < 0 || most < 0 || most > RUN_LIMIT) {
            throw new IllegalArgumentException("choices or most out of range");
        }
        executedCount = 0;
        takenCount = 0;
        escapedKind = NONE;
        wayNumber = 7;
        long rest = choices;
        int at = 0;
        for (int turn = 0; turn < most && code.has(at); turn++) {
            int options = code.normalOptions(at) + Integer.bitCount(code.thrown[at]);
            int option = 0;
            if (options > 1) {
                option = (int) (rest % options);
                rest /= options;
            }
            at = execute(at, option);
        }
        if (escapedKind != NONE) {
            return OUTCOME_LEFT;
        }
        return code.has(at) ? OUTCOME_STOPPED : OUTCOME_END;
    }

    public int executed() {
        return executedCount;
    }

    public int taken() {
        return takenCount;
    }

    public int escaped() {
        return escapedKind;
    }

    public long way() {
        return wayNumber;
    }

    public long digest() {
        long d = 137;
        d = d * 31 + kinds.count;
        for (int kind = 1; kind < kinds.count; kind++) {
            d = d * 31 + kinds.parents[kind];
        }
        d = d * 31 + code.count;
        for (int instruction = 0; instruction < code.count; instruction++) {
            d = d * 31 + code.forms[instruction];
            d = d * 31 + code.thrown[instruction];
            d = d * 31 + code.targets[instruction];
        }
        d = d * 31 + table.count;
        for (int entry = 0; entry < table.count; entry++) {
            d = d * 31 + table.begins[entry];
            d = d * 31 + table.ends[entry];
            d = d * 31 + table.kinds[entry];
            d = d * 31 + table.targets[entry];
        }
        d = d * 31 + executedCount;
        d = d * 31 + takenCount;
        return d * 31 + escapedKind;
    }

    private void requireKind(int kind) {
        if (!kinds.has(kind)) {
            throw new IndexOutOfBoundsException("no such kind");
        }
    }

    private void requireKindSet(int set) {
        if (!kinds.hasAll(set)) {
            throw new IllegalArgumentException("no set of kinds");
        }
    }

    private void requireTarget(int target) {
        if (target < 0 || target >= CODE_LIMIT) {
            throw new IllegalArgumentException("target is not 0 to 47");
        }
    }

    private void requireInstruction(int instruction) {
        if (!code.has(instruction)) {
            throw new IndexOutOfBoundsException("no such instruction");
        }
    }

    private void requireEntry(int entry) {
        if (!table.has(entry)) {
            throw new IndexOutOfBoundsException("no such entry");
        }
    }

    private void requireRoomForCode() {
        if (code.isFull()) {
            throw new IllegalStateException("there are 48 instructions");
        }
    }

    private void findReached() {
        for (int instruction = 0; instruction < CODE_LIMIT; instruction++) {
            reached[instruction] = false;
        }
        reachedCount = 0;
        reach(0);
        for (int next = 0; next < reachedCount && next < CODE_LIMIT; next++) {
            reachFrom(reachedOrder[next]);
        }
    }

    private void reach(int instruction) {
        if (code.has(instruction) && !reached[instruction]) {
            reached[instruction] = true;
            reachedOrder[reachedCount] = instruction;
            reachedCount++;
        }
    }

    private void reachFrom(int instruction) {
        int form = code.forms[instruction];
        if (form == STEP || form == BRANCH) {
            reach(instruction + 1);
        }
        if (form == JUMP || form == BRANCH) {
            reach(code.targets[instruction]);
        }
        for (int kind = 0; kind < kinds.count; kind++) {
            if (code.canThrow(instruction, kind)) {
                reach(table.goal(kinds, instruction, kind));
            }
        }
    }

    private boolean isThrown(int instruction, int kind) {
        return reached[instruction] && code.canThrow(instruction, kind);
    }

    private void findUses() {
        findReached();
        for (int entry = 0; entry < TABLE_LIMIT; entry++) {
            behindLastUse[entry] = 0;
        }
        for (int instruction = 0; instruction < code.count; instruction++) {
            for (int kind = 0; kind < kinds.count; kind++) {
                if (isThrown(instruction, kind)) {
                    noteUse(table.firstTaker(kinds, instruction, kind), instruction);
                }
            }
        }
    }

    private void noteUse(int entry, int instruction) {
        if (entry == NONE) {
            return;
        }
        if (!hasUse(entry)) {
            firstUse[entry] = instruction;
        }
        behindLastUse[entry] = instruction + 1;
    }

    private boolean hasUse(int entry) {
        return behindLastUse[entry] > 0;
    }

    private boolean isTight(int entry) {
        return table.begins[entry] == firstUse[entry] && table.ends[entry] == behindLastUse[entry];
    }

    private boolean goesLikeTheOneAhead(int instruction) {
        for (int kind = 0; kind < kinds.count; kind++) {
            int goal = table.goal(kinds, instruction, kind);
            if (goal != table.goal(kinds, instruction - 1, kind)) {
                return false;
            }
        }
        return true;
    }

    private void findGoals() {
        for (int instruction = 0; instruction < code.count; instruction++) {
            for (int kind = 0; kind < kinds.count; kind++) {
                goals[instruction * KIND_LIMIT + kind] = table.goal(kinds, instruction, kind);
            }
        }
    }

    private boolean trialKeepsGoals() {
        for (int instruction = 0; instruction < code.count; instruction++) {
            for (int kind = 0; kind < kinds.count; kind++) {
                if (isThrown(instruction, kind) && trial.goal(kinds, instruction, kind)
                        != goals[instruction * KIND_LIMIT + kind]) {
                    return false;
                }
            }
        }
        return true;
    }

    private boolean joinFirstPair() {
        for (int a = 0; a < table.count; a++) {
            for (int b = a + 1; b < table.count; b++) {
                if (table.targets[a] == table.targets[b]
                        && (joinInPlaceOf(a, b) || joinInPlaceOf(b, a))) {
                    return true;
                }
            }
        }
        return false;
    }

    private boolean joinInPlaceOf(int kept, int gone) {
        trial.copyAll(table);
        trial.begins[kept] = Math.min(table.begins[kept], table.begins[gone]);
        trial.ends[kept] = Math.max(table.ends[kept], table.ends[gone]);
        trial.kinds[kept] = kinds.lowestAbove(table.kinds[kept], table.kinds[gone]);
        trial.delete(gone);
        if (!trialKeepsGoals()) {
            return false;
        }
        table.copyAll(trial);
        return true;
    }

    private void countRemovedAhead() {
        int removed = 0;
        for (int number = 0; number <= CODE_LIMIT; number++) {
            removedAhead[number] = removed;
            if (code.has(number) && !reached[number]) {
                removed++;
            }
        }
    }

    private int renumbered(int number) {
        return number - removedAhead[number];
    }

    private void sweepTable() {
        for (int entry = table.count - 1; entry >= 0; entry--) {
            table.begins[entry] = renumbered(table.begins[entry]);
            table.ends[entry] = renumbered(table.ends[entry]);
            table.targets[entry] = renumbered(table.targets[entry]);
            if (table.begins[entry] >= table.ends[entry]) {
                table.delete(entry);
            }
        }
    }

    private void sweepCode() {
        int before = code.count;
        code.count = 0;
        for (int instruction = 0; instruction < before; instruction++) {
            if (reached[instruction]) {
                int target = code.targets[instruction];
                code.append(code.forms[instruction], code.thrown[instruction],
                        target == NONE ? NONE : renumbered(target));
            }
        }
    }

    /** Answers the next instruction, NONE if the run ends here. */
    private int execute(int instruction, int option) {
        int form = code.forms[instruction];
        executedCount++;
        wayNumber = wayNumber * 31 + form;
        if (form == END) {
            return NONE;
        }
        int normal = code.normalOptions(instruction);
        if (option < normal) {
            return code.normalNext(instruction, option);
        }
        return throwFrom(instruction, kindOfOption(instruction, option - normal));
    }

    private int kindOfOption(int instruction, int number) {
        int ahead = 0;
        for (int kind = 0; kind < kinds.count; kind++) {
            if (code.canThrow(instruction, kind)) {
                if (ahead == number) {
                    return kind;
                }
                ahead++;
            }
        }
        return 0;
    }

    private int throwFrom(int instruction, int kind) {
        wayNumber = wayNumber * 31 + 10 + kind;
        int entry = table.firstTaker(kinds, instruction, kind);
        if (entry == NONE) {
            escapedKind = kind;
            return NONE;
        }
        takenCount++;
        return table.targets[entry];
    }
}
