/** For each promise of the document ordinary inputs, the edges that it names, and wrong inputs. */
public final class PromisesTest extends Due {
    private PromisesTest() {
    }

    private static void p01NewObject() {
        HandlerOptimizer x = new HandlerOptimizer();
        due("kindCount", x.kindCount(), 1);
        due("size", x.size(), 0);
        due("entryCount", x.entryCount(), 0);
        due("executed", x.executed(), 0);
        due("taken", x.taken(), 0);
        due("escaped", x.escaped(), -1);
        due("way", x.way(), 0);
        dueDigest(x, 1, 0, 0, 0, 0, -1);
        HandlerOptimizer y = new HandlerOptimizer();
        y.addKind(0);
        y.end();
        y.addEntry(0, 1, 0, 0);
        due("another object's kinds", x.kindCount(), 1);
        due("another object's code", x.size(), 0);
        due("another object's table", x.entryCount(), 0);
    }

    private static void p02AddKind() {
        HandlerOptimizer x = new HandlerOptimizer();
        for (int wrongParent : new int[] {-1, 1, 8, MIN, MAX}) {
            dueThrow("addKind", x, INDEX, o -> o.addKind(wrongParent));
        }
        for (int k = 1; k < 8; k++) {
            due("addKind", x.addKind(k / 2), k);
        }
        dueThrow("ninth kind", x, STATE, o -> o.addKind(7));
        dueThrow("ninth kind", x, STATE, o -> o.addKind(0));
        dueThrow("ninth kind of no parent", x, INDEX, o -> o.addKind(8));
        dueThrow("ninth kind of no parent", x, INDEX, o -> o.addKind(-1));
        due("isBelow(7, 3)", x.isBelow(7, 3), true);
    }

    private static void p03KindCount() {
        HandlerOptimizer x = new HandlerOptimizer();
        for (int k = 1; k < 8; k++) {
            due("kindCount", x.kindCount(), k);
            x.addKind(0);
        }
        due("kindCount", x.kindCount(), 8);
    }

    private static void p04IsBelow() {
        HandlerOptimizer x = withTree();
        int[] below = {0, 1, 1, 1 | 2, 1 | 2, 1 | 2 | 8};
        for (int a = 0; a < 6; a++) {
            for (int b = 0; b < 6; b++) {
                due("isBelow(" + a + ", " + b + ")", x.isBelow(a, b), (below[a] >> b & 1) != 0);
            }
        }
        for (int no : new int[] {-1, 6, MIN, MAX}) {
            dueThrow("isBelow", x, INDEX, o -> o.isBelow(no, 0));
            dueThrow("isBelow", x, INDEX, o -> o.isBelow(0, no));
            dueThrow("isBelow", x, INDEX, o -> o.isBelow(no, no));
        }
    }

    private static void p05Common() {
        HandlerOptimizer x = withTree();
        int[][] common = {
            {0, 0, 0, 0, 0, 0},
            {0, 1, 0, 1, 1, 1},
            {0, 0, 2, 0, 0, 0},
            {0, 1, 0, 3, 1, 3},
            {0, 1, 0, 1, 4, 1},
            {0, 1, 0, 3, 1, 5},
        };
        for (int a = 0; a < 6; a++) {
            for (int b = 0; b < 6; b++) {
                due("common(" + a + ", " + b + ")", x.common(a, b), common[a][b]);
            }
        }
        for (int no : new int[] {-1, 6, MIN, MAX}) {
            dueThrow("common", x, INDEX, o -> o.common(no, 0));
            dueThrow("common", x, INDEX, o -> o.common(0, no));
        }
    }

    private static void p06Step() {
        HandlerOptimizer x = new HandlerOptimizer();
        x.addKind(0);
        for (int no : new int[] {4, 5, -1, 256, MIN, MAX}) {
            dueThrow("step", x, ARGUMENT, o -> o.step(no));
        }
        for (int set = 0; set < 4; set++) {
            due("step", x.step(set), set);
            dueInstruction(x, set, 0, set, -1);
        }
        HandlerOptimizer full = withFullCode();
        dueThrow("step in full code", full, STATE, o -> o.step(0));
        dueThrow("step of no kinds in full code", full, ARGUMENT, o -> o.step(2));
        HandlerOptimizer all = new HandlerOptimizer();
        for (int k = 1; k < 8; k++) {
            all.addKind(0);
        }
        all.step(255);
        dueInstruction(all, 0, 0, 255, -1);
        dueThrow("step", all, ARGUMENT, o -> o.step(256));
    }

    private static void p07Jump() {
        HandlerOptimizer x = new HandlerOptimizer();
        for (int no : new int[] {-1, 48, MIN, MAX}) {
            dueThrow("jump", x, ARGUMENT, o -> o.jump(no));
        }
        due("jump(0)", x.jump(0), 0);
        due("jump(47)", x.jump(47), 1);
        dueInstruction(x, 0, 1, 0, 0);
        dueInstruction(x, 1, 1, 0, 47);
        HandlerOptimizer full = withFullCode();
        dueThrow("jump in full code", full, STATE, o -> o.jump(0));
        dueThrow("jump to nowhere in full code", full, ARGUMENT, o -> o.jump(48));
    }

    private static void p08Branch() {
        HandlerOptimizer x = new HandlerOptimizer();
        x.addKind(0);
        for (int no : new int[] {-1, 48, MIN, MAX}) {
            dueThrow("branch", x, ARGUMENT, o -> o.branch(1, no));
        }
        for (int no : new int[] {4, -1, MIN, MAX}) {
            dueThrow("branch", x, ARGUMENT, o -> o.branch(no, 1));
        }
        due("branch(3, 0)", x.branch(3, 0), 0);
        due("branch(0, 47)", x.branch(0, 47), 1);
        dueInstruction(x, 0, 2, 3, 0);
        dueInstruction(x, 1, 2, 0, 47);
        HandlerOptimizer full = withFullCode();
        dueThrow("branch in full code", full, STATE, o -> o.branch(1, 0));
        dueThrow("wrong branch in full code", full, ARGUMENT, o -> o.branch(2, 0));
        dueThrow("wrong branch in full code", full, ARGUMENT, o -> o.branch(1, -1));
    }

    private static void p09End() {
        HandlerOptimizer x = new HandlerOptimizer();
        due("end", x.end(), 0);
        due("end", x.end(), 1);
        dueInstruction(x, 1, 3, 0, -1);
        dueThrow("end in full code", withFullCode(), STATE, o -> o.end());
    }

    private static void p10Raise() {
        HandlerOptimizer x = withTree();
        for (int no : new int[] {-1, 6, 8, MIN, MAX}) {
            dueThrow("raise", x, INDEX, o -> o.raise(no));
        }
        due("raise(0)", x.raise(0), 0);
        due("raise(5)", x.raise(5), 1);
        dueInstruction(x, 0, 4, 1, -1);
        dueInstruction(x, 1, 4, 32, -1);
        HandlerOptimizer full = withFullCode();
        dueThrow("raise in full code", full, STATE, o -> o.raise(0));
        dueThrow("raise of no kind in full code", full, INDEX, o -> o.raise(1));
    }

    private static void p11Size() {
        HandlerOptimizer x = new HandlerOptimizer();
        x.step(0);
        due("size", x.size(), 1);
        x.jump(1);
        due("size", x.size(), 2);
        x.branch(0, 1);
        due("size", x.size(), 3);
        x.end();
        due("size", x.size(), 4);
        x.raise(0);
        due("size", x.size(), 5);
        due("size", withFullCode().size(), 48);
    }

    private static void p12Instruction() {
        HandlerOptimizer x = new HandlerOptimizer();
        dueThrow("instruction", x, INDEX, o -> o.instruction(0, 0));
        x.branch(1, 9);
        x.end();
        dueInstruction(x, 0, 2, 1, 9);
        for (int no : new int[] {-1, 3, MIN, MAX}) {
            dueThrow("instruction", x, INDEX, o -> o.instruction(0, no));
        }
        for (int no : new int[] {-1, 2, 48, MIN, MAX}) {
            dueThrow("instruction", x, INDEX, o -> o.instruction(no, 0));
        }
    }

    private static void p13AddEntry() {
        HandlerOptimizer x = withTree();
        int[][] ranges = {{-1, 2}, {0, 49}, {3, 3}, {4, 3}, {48, 48}, {MIN, MAX}, {0, MAX},
            {0, -1}, {48, 49}, {0, 0}};
        for (int[] range : ranges) {
            dueThrow("addEntry", x, ARGUMENT, o -> o.addEntry(range[0], range[1], 0, 0));
        }
        for (int no : new int[] {-1, 48, MIN, MAX}) {
            dueThrow("addEntry", x, ARGUMENT, o -> o.addEntry(0, 1, 0, no));
        }
        for (int no : new int[] {-1, 6, MIN, MAX}) {
            dueThrow("addEntry", x, INDEX, o -> o.addEntry(0, 1, no, 0));
            dueThrow("addEntry", x, INDEX, o -> o.addEntry(1, 1, no, 48));
        }
        due("addEntry", x.addEntry(0, 48, 5, 47), 0);
        due("addEntry", x.addEntry(47, 48, 0, 0), 1);
        dueEntry(x, 0, 0, 48, 5, 47);
        dueEntry(x, 1, 47, 48, 0, 0);
        for (int e = 2; e < 24; e++) {
            due("addEntry", x.addEntry(e, e + 1, 1, 2), e);
        }
        dueThrow("25th entry", x, STATE, o -> o.addEntry(0, 1, 0, 0));
        dueThrow("wrong 25th entry", x, ARGUMENT, o -> o.addEntry(1, 1, 0, 0));
        dueThrow("wrong 25th entry", x, INDEX, o -> o.addEntry(1, 1, 6, 0));
    }

    private static void p14RemoveEntry() {
        HandlerOptimizer x = new HandlerOptimizer();
        dueThrow("removeEntry", x, INDEX, o -> o.removeEntry(0));
        for (int e = 0; e < 24; e++) {
            x.addEntry(e, e + 1, 0, e + 2);
        }
        for (int no : new int[] {-1, 24, MIN, MAX}) {
            dueThrow("removeEntry", x, INDEX, o -> o.removeEntry(no));
        }
        due("removeEntry(23)", x.removeEntry(23), 23);
        dueThrow("removeEntry", x, INDEX, o -> o.removeEntry(23));
        due("removeEntry(0)", x.removeEntry(0), 22);
        due("removeEntry(1)", x.removeEntry(1), 21);
        dueEntry(x, 0, 1, 2, 0, 3);
        dueEntry(x, 1, 3, 4, 0, 5);
        dueEntry(x, 20, 22, 23, 0, 24);
        due("addEntry", x.addEntry(0, 1, 0, 0), 21);
    }

    private static void p15EntryCount() {
        HandlerOptimizer x = new HandlerOptimizer();
        for (int e = 0; e < 24; e++) {
            due("entryCount", x.entryCount(), e);
            x.addEntry(0, 1, 0, 0);
        }
        due("entryCount", x.entryCount(), 24);
        x.removeEntry(3);
        due("entryCount", x.entryCount(), 23);
    }

    private static void p16Entry() {
        HandlerOptimizer x = withTree();
        dueThrow("entry", x, INDEX, o -> o.entry(0, 0));
        x.addEntry(2, 30, 4, 7);
        x.addEntry(1, 5, 3, 8);
        dueEntry(x, 0, 2, 30, 4, 7);
        dueEntry(x, 1, 1, 5, 3, 8);
        for (int no : new int[] {-1, 4, MIN, MAX}) {
            dueThrow("entry", x, INDEX, o -> o.entry(0, no));
        }
        for (int no : new int[] {-1, 2, 24, MIN, MAX}) {
            dueThrow("entry", x, INDEX, o -> o.entry(no, 0));
        }
    }

    private static void p17Taker() {
        HandlerOptimizer x = withTree();
        for (int i = 0; i < 4; i++) {
            x.step(0);
        }
        x.addEntry(1, 3, 3, 9);
        x.addEntry(0, 3, 1, 9);
        x.addEntry(1, 2, 0, 9);
        int[][] takers = {
            {-1, 1, -1, 1, 1, 1},
            {2, 1, 2, 0, 1, 0},
            {-1, 1, -1, 0, 1, 0},
            {-1, -1, -1, -1, -1, -1},
        };
        for (int i = 0; i < 4; i++) {
            for (int k = 0; k < 6; k++) {
                due("taker(" + i + ", " + k + ")", x.taker(i, k), takers[i][k]);
            }
        }
        for (int no : new int[] {-1, 6, MIN, MAX}) {
            dueThrow("taker", x, INDEX, o -> o.taker(0, no));
        }
        for (int no : new int[] {-1, 4, 48, MIN, MAX}) {
            dueThrow("taker", x, INDEX, o -> o.taker(no, 0));
        }
        due("kind below the entry's, added later", x.addKind(5), 6);
        due("taker(2, 6)", x.taker(2, 6), 0);
    }

    private static void p18IsReached() {
        HandlerOptimizer x = new HandlerOptimizer();
        dueThrow("isReached", x, INDEX, o -> o.isReached(0));
        x.addKind(0);
        x.branch(0, 4);
        x.step(2);
        x.end();
        x.step(0);
        x.jump(6);
        x.step(0);
        x.raise(0);
        x.step(1);
        x.jump(47);
        dueReached(x, 1, 1, 1, 0, 1, 0, 1, 0, 0);
        x.addEntry(0, 48, 0, 7);
        dueReached(x, 1, 1, 1, 0, 1, 0, 1, 1, 1);
        x.removeEntry(0);
        x.addEntry(0, 2, 1, 3);
        dueReached(x, 1, 1, 1, 1, 1, 0, 1, 0, 0);
        x.removeEntry(0);
        x.addEntry(0, 6, 0, 47);
        x.addEntry(6, 7, 1, 5);
        dueReached(x, 1, 1, 1, 0, 1, 0, 1, 0, 0);
        for (int no : new int[] {-1, 9, 48, MIN, MAX}) {
            dueThrow("isReached", x, INDEX, o -> o.isReached(no));
        }
        HandlerOptimizer full = withFullCode();
        due("isReached(47)", full.isReached(47), true);
        HandlerOptimizer thrown = new HandlerOptimizer();
        thrown.raise(0);
        thrown.end();
        thrown.end();
        thrown.addEntry(0, 1, 0, 2);
        dueReached(thrown, 1, 0, 1);
        HandlerOptimizer less = new HandlerOptimizer();
        less.step(1);
        less.end();
        less.step(0);
        less.end();
        less.addEntry(0, 1, 0, 2);
        dueReached(less, 1, 1, 1, 1);
        less.removeEntry(0);
        due("isReached(3), no more", less.isReached(3), false);
        dueReached(less, 1, 1, 0, 0);
        HandlerOptimizer loop = new HandlerOptimizer();
        loop.jump(2);
        loop.end();
        loop.jump(0);
        dueReached(loop, 1, 0, 1);
    }

    private static void p19IsUsed() {
        HandlerOptimizer x = withTree();
        dueThrow("isUsed", x, INDEX, o -> o.isUsed(0));
        x.step(2);
        x.step(8);
        x.end();
        x.step(63);
        x.addEntry(0, 1, 3, 2);
        x.addEntry(1, 48, 3, 2);
        x.addEntry(1, 2, 5, 2);
        x.addEntry(0, 2, 1, 2);
        x.addEntry(0, 2, 0, 3);
        x.addEntry(3, 4, 0, 2);
        int[] used = {0, 1, 0, 1, 0, 0};
        for (int e = 0; e < 6; e++) {
            due("isUsed(" + e + ")", x.isUsed(e), used[e] != 0);
        }
        for (int no : new int[] {-1, 6, 24, MIN, MAX}) {
            dueThrow("isUsed", x, INDEX, o -> o.isUsed(no));
        }
        x.removeEntry(3);
        due("isUsed(3)", x.isUsed(3), true);
        due("now 3 is reached, and isUsed(4)", x.isUsed(4), true);
        HandlerOptimizer y = new HandlerOptimizer();
        y.step(1);
        y.addEntry(0, 1, 0, 9);
        due("isUsed(0)", y.isUsed(0), true);
        y.removeEntry(0);
        y.addEntry(1, 2, 0, 9);
        due("isUsed(0) of another entry", y.isUsed(0), false);
    }

    private static void p20Leaving() {
        HandlerOptimizer x = withTree();
        due("leaving", x.leaving(), 0);
        x.step(1 | 4);
        x.step(2 | 8);
        x.raise(5);
        x.step(16);
        due("leaving", x.leaving(), 1 | 2 | 4 | 8 | 32);
        x.addEntry(0, 2, 1, 2);
        due("leaving", x.leaving(), 1 | 4 | 32);
        x.addEntry(0, 1, 0, 3);
        due("leaving", x.leaving(), 16 | 32);
        x.addEntry(2, 4, 1, 47);
        due("leaving", x.leaving(), 0);
    }

    private static void p21Share() {
        HandlerOptimizer x = withTree();
        dueShare(x, 0.0);
        x.step(0);
        dueShare(x, 0.0);
        x.step(1 | 2);
        x.step(2);
        x.end();
        x.step(63);
        dueShare(x, 0.0);
        x.addEntry(0, 3, 1, 2);
        dueShare(x, 2.0 / 3.0);
        x.addEntry(1, 2, 0, 3);
        dueShare(x, 1.0);
        x.removeEntry(0);
        dueShare(x, 2.0 / 3.0);
        x.removeEntry(0);
        x.addEntry(2, 5, 0, 4);
        dueShare(x, 7.0 / 9.0);
        HandlerOptimizer y = new HandlerOptimizer();
        y.addKind(0);
        y.step(3);
        y.addEntry(0, 1, 1, 9);
        dueShare(y, 0.5);
    }

    private static void p22Parts() {
        HandlerOptimizer x = new HandlerOptimizer();
        x.addEntry(0, 1, 0, 3);
        due("parts of no code", x.parts(), 0);
        x.addKind(0);
        x.end();
        due("parts", x.parts(), 1);
        for (int i = 1; i < 6; i++) {
            x.step(0);
        }
        due("parts", x.parts(), 2);
        x.addEntry(1, 2, 0, 3);
        due("same target by another entry", x.parts(), 2);
        x.addEntry(3, 4, 1, 3);
        due("one kind goes elsewhere", x.parts(), 4);
        x.addEntry(2, 3, 0, 7);
        due("parts", x.parts(), 4);
        x.addEntry(4, 48, 1, 3);
        due("parts", x.parts(), 3);
        x.addEntry(0, 48, 0, 0);
        due("parts", x.parts(), 3);
        x.addEntry(6, 48, 0, 1);
        due("entries behind the code", x.parts(), 3);
        HandlerOptimizer y = new HandlerOptimizer();
        y.addKind(0);
        y.step(0);
        y.step(0);
        y.addEntry(0, 2, 1, 5);
        y.addEntry(1, 2, 0, 5);
        due("kind 0 alone goes elsewhere", y.parts(), 2);
    }

    private static void p23Drop() {
        HandlerOptimizer x = new HandlerOptimizer();
        due("drop", x.drop(), 0);
        x.addEntry(0, 48, 0, 0);
        x.addEntry(0, 48, 0, 1);
        due("drop without code", x.drop(), 2);
        x.addKind(0);
        x.step(2);
        x.step(1);
        x.end();
        x.step(3);
        x.addEntry(1, 2, 1, 4);
        x.addEntry(0, 4, 1, 5);
        x.addEntry(0, 1, 0, 6);
        x.addEntry(3, 4, 0, 7);
        x.addEntry(0, 48, 0, 8);
        x.addEntry(1, 2, 0, 9);
        due("drop", x.drop(), 4);
        due("entryCount", x.entryCount(), 2);
        dueEntry(x, 0, 0, 4, 1, 5);
        dueEntry(x, 1, 0, 48, 0, 8);
        due("drop", x.drop(), 0);
    }

    private static void p24Shrink() {
        HandlerOptimizer x = new HandlerOptimizer();
        due("shrink", x.shrink(), 0);
        x.addKind(0);
        x.step(0);
        x.step(1);
        x.step(2);
        x.step(1);
        x.step(0);
        x.jump(7);
        x.step(3);
        x.end();
        x.addEntry(0, 48, 1, 7);
        x.addEntry(1, 4, 0, 7);
        x.addEntry(0, 48, 0, 7);
        x.addEntry(6, 7, 0, 0);
        due("shrink", x.shrink(), 1);
        dueEntry(x, 0, 2, 3, 1, 7);
        dueEntry(x, 1, 1, 4, 0, 7);
        dueEntry(x, 2, 0, 48, 0, 7);
        dueEntry(x, 3, 6, 7, 0, 0);
        due("shrink", x.shrink(), 0);
        x.removeEntry(1);
        due("shrink", x.shrink(), 1);
        dueEntry(x, 1, 1, 4, 0, 7);
        x.addEntry(0, 2, 0, 7);
        x.removeEntry(1);
        x.addEntry(3, 5, 0, 7);
        due("only the beginning, only the end", x.shrink(), 2);
        dueEntry(x, 2, 1, 2, 0, 7);
        dueEntry(x, 3, 3, 4, 0, 7);
    }

    private static void p25Join() {
        joinsInPlaceOfTheFirst();
        joinsInPlaceOfTheSecond();
        joinsNotOtherTargets();
        joinsNotWhereErrorsWouldGoElsewhere();
        joinsFirstPairFirst();
        joinsWhatIsNotReached();
        joinsAll();
    }

    private static void joinsInPlaceOfTheFirst() {
        HandlerOptimizer x = withTree();
        x.step(8);
        x.step(16);
        x.step(0);
        x.addEntry(0, 1, 3, 2);
        x.addEntry(4, 5, 2, 7);
        x.addEntry(1, 2, 4, 2);
        due("join", x.join(), 1);
        due("entryCount", x.entryCount(), 2);
        dueEntry(x, 0, 0, 2, 1, 2);
        dueEntry(x, 1, 4, 5, 2, 7);
    }

    /** In place of the first it would take the errors of kind 1 from the entry between. */
    private static void joinsInPlaceOfTheSecond() {
        HandlerOptimizer x = withTree();
        x.step(8);
        x.step(2);
        x.step(8 | 16);
        x.end();
        x.addEntry(0, 1, 3, 3);
        x.addEntry(1, 2, 1, 7);
        x.addEntry(2, 3, 1, 3);
        due("join", x.join(), 1);
        due("entryCount", x.entryCount(), 2);
        dueEntry(x, 0, 1, 2, 1, 7);
        dueEntry(x, 1, 0, 3, 1, 3);
    }

    private static void joinsNotOtherTargets() {
        HandlerOptimizer x = new HandlerOptimizer();
        x.step(1);
        x.step(1);
        x.addEntry(0, 1, 0, 5);
        x.addEntry(1, 2, 0, 6);
        due("join", x.join(), 0);
        due("entryCount", x.entryCount(), 2);
    }

    private static void joinsNotWhereErrorsWouldGoElsewhere() {
        HandlerOptimizer x = withTree();
        x.step(1);
        x.step(1);
        x.step(1);
        x.addEntry(0, 1, 0, 7);
        x.addEntry(2, 3, 0, 7);
        due("the error between leaves", x.join(), 0);
        x.addEntry(0, 3, 0, 9);
        due("the error between goes elsewhere", x.join(), 0);
        HandlerOptimizer y = withTree();
        y.step(2 | 8 | 16);
        y.addEntry(0, 1, 3, 7);
        y.addEntry(0, 1, 4, 7);
        due("the common kind leaves", y.join(), 0);
        dueEntry(y, 0, 0, 1, 3, 7);
        dueEntry(y, 1, 0, 1, 4, 7);
    }

    /** 0 with 1 can not be joined, 0 with 2 can, and so can 1 with 3. */
    private static void joinsFirstPairFirst() {
        HandlerOptimizer x = new HandlerOptimizer();
        x.addKind(0);
        x.addKind(0);
        x.step(2 | 4);
        x.step(2 | 4);
        x.step(1);
        x.end();
        x.addEntry(0, 1, 1, 3);
        x.addEntry(0, 1, 2, 4);
        x.addEntry(1, 2, 1, 3);
        x.addEntry(1, 2, 2, 4);
        due("join", x.join(), 2);
        due("entryCount", x.entryCount(), 2);
        dueEntry(x, 0, 0, 2, 1, 3);
        dueEntry(x, 1, 0, 2, 2, 4);
    }

    private static void joinsWhatIsNotReached() {
        HandlerOptimizer x = new HandlerOptimizer();
        x.addKind(0);
        x.addKind(0);
        x.end();
        x.step(1 | 2);
        x.step(1 | 2);
        x.addEntry(1, 2, 1, 9);
        x.addEntry(4, 9, 2, 9);
        due("join", x.join(), 1);
        dueEntry(x, 0, 1, 9, 0, 9);
    }

    private static void joinsAll() {
        HandlerOptimizer x = new HandlerOptimizer();
        for (int i = 0; i < 24; i++) {
            x.step(1);
            x.addEntry(i, i + 1, 0, 40);
        }
        due("join", x.join(), 23);
        due("entryCount", x.entryCount(), 1);
        dueEntry(x, 0, 0, 24, 0, 40);
        due("join", x.join(), 0);
    }

    private static void p26Improve() {
        HandlerOptimizer x = new HandlerOptimizer();
        due("improve", x.improve(), 0);
        x.addEntry(0, 1, 0, 0);
        due("a drop alone", x.improve(), 1);
        due("entryCount", x.entryCount(), 0);
        x.step(1);
        x.addEntry(0, 2, 0, 9);
        due("a shrink alone", x.improve(), 1);
        dueEntry(x, 0, 0, 1, 0, 9);
        due("improve", x.improve(), 0);
        x.step(1);
        x.addEntry(1, 2, 0, 9);
        due("a join alone", x.improve(), 1);
        dueEntry(x, 0, 0, 2, 0, 9);
        improvesByAllThree();
        improvesAroundAnotherTarget();
        improvesInTwoRounds();
    }

    /** The joined entry takes what the last one took, but that can not be joined, for its kind. */
    private static void improvesInTwoRounds() {
        HandlerOptimizer x = new HandlerOptimizer();
        x.addKind(0);
        x.step(3);
        x.step(2);
        x.step(2);
        x.addEntry(0, 1, 1, 8);
        x.addEntry(2, 3, 1, 8);
        x.addEntry(1, 2, 0, 8);
        due("improve", x.improve(), 2);
        due("entryCount", x.entryCount(), 1);
        dueEntry(x, 0, 0, 3, 1, 8);
    }

    private static void improvesByAllThree() {
        HandlerOptimizer x = new HandlerOptimizer();
        x.addKind(0);
        x.addKind(0);
        x.step(2);
        x.step(1);
        x.step(4);
        x.addEntry(0, 1, 1, 9);
        x.addEntry(2, 3, 2, 9);
        x.addEntry(1, 2, 0, 9);
        due("improve", x.improve(), 1);
        due("entryCount", x.entryCount(), 1);
        dueEntry(x, 0, 0, 3, 0, 9);

        HandlerOptimizer y = new HandlerOptimizer();
        y.step(1);
        y.step(0);
        y.step(1);
        y.addEntry(0, 1, 0, 8);
        y.addEntry(1, 2, 0, 7);
        y.addEntry(2, 3, 0, 8);
        due("dropped, then joined", y.improve(), 1);
        due("entryCount", y.entryCount(), 1);
        dueEntry(y, 0, 0, 3, 0, 8);
    }

    private static void improvesAroundAnotherTarget() {
        HandlerOptimizer x = new HandlerOptimizer();
        x.addKind(0);
        x.step(2);
        x.step(3);
        x.step(1);
        x.step(1);
        x.addEntry(1, 2, 1, 9);
        x.addEntry(0, 1, 1, 8);
        x.addEntry(2, 3, 0, 8);
        x.addEntry(1, 2, 0, 8);
        x.addEntry(3, 4, 0, 8);
        long ways = waysOf(x, 12);
        due("improve", x.improve(), 1);
        due("entryCount", x.entryCount(), 2);
        dueEntry(x, 0, 1, 2, 1, 9);
        dueEntry(x, 1, 0, 4, 0, 8);
        due("ways", waysOf(x, 12), ways);
    }

    private static void p27Sweep() {
        HandlerOptimizer x = new HandlerOptimizer();
        due("sweep", x.sweep(), 0);
        x.addKind(0);
        x.branch(2, 4);
        x.jump(6);
        x.step(3);
        x.raise(1);
        x.jump(40);
        x.step(1);
        x.end();
        x.branch(0, 3);
        x.addEntry(0, 48, 1, 6);
        x.addEntry(2, 4, 0, 3);
        x.addEntry(1, 3, 0, 5);
        x.addEntry(3, 5, 1, 47);
        x.addEntry(10, 20, 1, 2);
        x.addEntry(5, 6, 1, 2);
        x.addEntry(7, 8, 1, 2);
        long ways = waysOf(x, 12);
        due("sweep", x.sweep(), 4);
        due("size", x.size(), 4);
        dueInstruction(x, 0, 2, 2, 2);
        dueInstruction(x, 1, 1, 0, 3);
        dueInstruction(x, 2, 1, 0, 36);
        dueInstruction(x, 3, 3, 0, -1);
        due("entryCount", x.entryCount(), 4);
        dueEntry(x, 0, 0, 44, 1, 3);
        dueEntry(x, 1, 1, 2, 0, 3);
        dueEntry(x, 2, 2, 3, 1, 43);
        dueEntry(x, 3, 6, 16, 1, 2);
        due("ways", waysOf(x, 12), ways);
        due("sweep", x.sweep(), 0);
        due("code goes on behind what is left", x.end(), 4);
        due("sweep", x.sweep(), 1);
        HandlerOptimizer full = new HandlerOptimizer();
        for (int i = 0; i < 48; i++) {
            full.end();
        }
        full.addEntry(0, 48, 0, 47);
        full.addEntry(1, 48, 0, 0);
        due("sweep of full code", full.sweep(), 47);
        due("entryCount", full.entryCount(), 1);
        dueEntry(full, 0, 0, 1, 0, 1);
    }

    private static HandlerOptimizer withWays() {
        HandlerOptimizer x = new HandlerOptimizer();
        x.addKind(0);
        x.addKind(0);
        x.step(0);
        x.branch(1 | 4, 4);
        x.step(2);
        x.end();
        x.raise(2);
        x.addEntry(2, 3, 0, 4);
        x.addEntry(1, 2, 2, 0);
        return x;
    }

    private static void p28Run() {
        HandlerOptimizer x = withWays();
        for (long no : new long[] {-1, Long.MIN_VALUE}) {
            dueThrow("run", x, ARGUMENT, o -> o.run(no, 5));
        }
        for (int no : new int[] {-1, 501, MIN, MAX}) {
            dueThrow("run", x, ARGUMENT, o -> o.run(0, no));
        }
        dueRun(x, 0, 500, 0, 4, 0, -1);
        for (int no : new int[] {-1, 501}) {
            dueThrow("run", x, ARGUMENT, o -> o.run(0, no));
        }
        dueRun(x, 1, 500, 1, 3, 0, 2);
        dueRun(x, 2, 500, 1, 2, 0, 0);
        dueRun(x, 3, 500, 0, 6, 1, -1);
        dueRun(x, 4, 500, 1, 4, 1, 2);
        dueRun(x, 3 + 4 * 3, 500, 0, 8, 2, -1);
        dueRun(x, 0, 0, 2, 0, 0, -1);
        dueRun(x, 0, 3, 2, 3, 0, -1);
        dueRun(x, 0, 4, 0, 4, 0, -1);
        dueRun(x, 1, 3, 1, 3, 0, 2);
        dueRun(x, 1, 2, 2, 2, 0, -1);
        HandlerOptimizer none = new HandlerOptimizer();
        dueRun(none, 0, 0, 0, 0, 0, -1);
        dueRun(none, Long.MAX_VALUE, 500, 0, 0, 0, -1);
        runsOverTheEnd();
        runsWithManyChoices();
        runsWithoutEnd();
    }

    private static void runsOverTheEnd() {
        HandlerOptimizer x = new HandlerOptimizer();
        x.step(0);
        dueRun(x, 7, 1, 0, 1, 0, -1);
        x.jump(47);
        dueRun(x, 7, 2, 0, 2, 0, -1);
        HandlerOptimizer y = new HandlerOptimizer();
        y.raise(0);
        y.addEntry(0, 1, 0, 47);
        dueRun(y, 7, 1, 0, 1, 1, -1);
        HandlerOptimizer full = new HandlerOptimizer();
        for (int i = 0; i < 48; i++) {
            full.step(0);
        }
        dueRun(full, 0, 500, 0, 48, 0, -1);
        dueRun(full, 0, 48, 0, 48, 0, -1);
        dueRun(full, 0, 47, 2, 47, 0, -1);
    }

    /** Long.MAX_VALUE is odd, and so is its half, and so on: 63 times to the target. */
    private static void runsWithManyChoices() {
        HandlerOptimizer x = new HandlerOptimizer();
        x.branch(0, 0);
        x.end();
        dueRun(x, Long.MAX_VALUE, 500, 0, 65, 0, -1);
        HandlerOptimizer y = new HandlerOptimizer();
        for (int k = 1; k < 8; k++) {
            y.addKind(0);
        }
        y.branch(255, 0);
        for (int kind = 0; kind < 8; kind++) {
            dueRun(y, 2 + kind, 500, 1, 1, 0, kind);
            dueRun(y, 12 + kind, 500, 1, 1, 0, kind);
        }
        dueRun(y, 10, 500, 0, 1, 0, -1);
        dueRun(y, 11, 500, 0, 3, 0, -1);
    }

    private static void runsWithoutEnd() {
        HandlerOptimizer x = new HandlerOptimizer();
        x.jump(1);
        x.raise(0);
        x.addEntry(1, 2, 0, 0);
        dueRun(x, 99, 500, 2, 500, 250, -1);
        dueRun(x, 99, 499, 2, 499, 249, -1);
    }

    private static void p29Executed() {
        HandlerOptimizer x = withWays();
        due("executed", x.executed(), 0);
        x.run(0, 500);
        due("executed", x.executed(), 4);
        x.improve();
        x.sweep();
        due("executed behind changes", x.executed(), 4);
        x.run(0, 0);
        due("executed", x.executed(), 0);
    }

    private static void p30Taken() {
        HandlerOptimizer x = withWays();
        due("taken", x.taken(), 0);
        x.run(3, 500);
        due("taken", x.taken(), 1);
        x.removeEntry(0);
        due("taken behind changes", x.taken(), 1);
        x.run(2, 500);
        due("the one that left is not taken", x.taken(), 0);
    }

    private static void p31Escaped() {
        HandlerOptimizer x = withWays();
        due("escaped", x.escaped(), -1);
        x.run(2, 500);
        due("escaped", x.escaped(), 0);
        x.addEntry(0, 48, 0, 3);
        due("escaped behind changes", x.escaped(), 0);
        x.run(0, 500);
        due("escaped", x.escaped(), -1);
    }

    private static void p32Way() {
        HandlerOptimizer x = withWays();
        due("way", x.way(), 0);
        x.run(0, 0);
        dueWay(x);
        x.run(0, 500);
        dueWay(x, 0, 2, 0, 3);
        x.run(1, 500);
        dueWay(x, 0, 2, 4, 12);
        x.run(2, 500);
        dueWay(x, 0, 2, 10);
        x.run(3, 500);
        dueWay(x, 0, 2, 12, 0, 2, 0, 3);
        x.run(4, 500);
        dueWay(x, 0, 2, 0, 11, 4, 12);
        x.removeEntry(0);
        dueWay(x, 0, 2, 0, 11, 4, 12);
        HandlerOptimizer jump = new HandlerOptimizer();
        jump.jump(0);
        jump.run(0, 20);
        dueWay(jump, 1, 1, 1, 1, 1, 1, 1, 1, 1, 1, 1, 1, 1, 1, 1, 1, 1, 1, 1, 1);
    }

    private static void p33Digest() {
        HandlerOptimizer x = new HandlerOptimizer();
        x.addKind(0);
        x.addKind(1);
        x.step(5);
        x.jump(9);
        x.branch(2, 8);
        x.end();
        x.raise(2);
        x.addEntry(1, 7, 2, 3);
        x.addEntry(0, 48, 1, 47);
        dueDigest(x, 3, 0, 1, 5, 0, 5, -1, 1, 0, 9, 2, 2, 8, 3, 0, -1, 4, 4, -1,
                2, 1, 7, 2, 3, 0, 48, 1, 47, 0, 0, -1);
        x.run(2, 500);
        dueDigest(x, 3, 0, 1, 5, 0, 5, -1, 1, 0, 9, 2, 2, 8, 3, 0, -1, 4, 4, -1,
                2, 1, 7, 2, 3, 0, 48, 1, 47, 1, 1, -1);
        x.run(1, 500);
        dueDigest(x, 3, 0, 1, 5, 0, 5, -1, 1, 0, 9, 2, 2, 8, 3, 0, -1, 4, 4, -1,
                2, 1, 7, 2, 3, 0, 48, 1, 47, 1, 0, 0);
    }

    /** All kinds, instructions and entries that there can be: no row is read beyond its end. */
    private static void fullEverywhere() {
        HandlerOptimizer x = new HandlerOptimizer();
        for (int k = 1; k < 8; k++) {
            x.addKind(k - 1);
        }
        for (int i = 0; i < 48; i++) {
            x.branch(255, 47);
        }
        for (int e = 0; e < 24; e++) {
            x.addEntry(2 * e, 2 * e + 2, 7 - e % 8, e % 2);
        }
        due("taker(47, 7)", x.taker(47, 7), 23);
        due("isReached(47)", x.isReached(47), true);
        due("isUsed(23)", x.isUsed(23), true);
        due("leaving", x.leaving(), 127);
        dueShare(x, 216.0 / 384.0);
        due("parts", x.parts(), 24);
        due("common(7, 6)", x.common(7, 6), 6);
        due("drop", x.drop(), 0);
        due("shrink", x.shrink(), 0);
        // The three of kind 7: the ones between take that kind, too, and stay ahead of the joined.
        due("join", x.join(), 2);
        dueEntry(x, 14, 0, 34, 7, 0);
        due("improve", x.improve(), 0);
        due("sweep", x.sweep(), 0);
        dueRun(x, 9, 500, 0, 49, 1, -1);
    }

    public static void main(String[] args) {
        test(1, "A new object", PromisesTest::p01NewObject);
        test(2, "addKind", PromisesTest::p02AddKind);
        test(3, "kindCount", PromisesTest::p03KindCount);
        test(4, "isBelow", PromisesTest::p04IsBelow);
        test(5, "common", PromisesTest::p05Common);
        test(6, "step", PromisesTest::p06Step);
        test(7, "jump", PromisesTest::p07Jump);
        test(8, "branch", PromisesTest::p08Branch);
        test(9, "end", PromisesTest::p09End);
        test(10, "raise", PromisesTest::p10Raise);
        test(11, "size", PromisesTest::p11Size);
        test(12, "instruction", PromisesTest::p12Instruction);
        test(13, "addEntry", PromisesTest::p13AddEntry);
        test(14, "removeEntry", PromisesTest::p14RemoveEntry);
        test(15, "entryCount", PromisesTest::p15EntryCount);
        test(16, "entry", PromisesTest::p16Entry);
        test(17, "taker", PromisesTest::p17Taker);
        test(18, "isReached", PromisesTest::p18IsReached);
        test(19, "isUsed", PromisesTest::p19IsUsed);
        test(20, "leaving", PromisesTest::p20Leaving);
        test(21, "share", PromisesTest::p21Share);
        test(22, "parts", PromisesTest::p22Parts);
        test(23, "drop", PromisesTest::p23Drop);
        test(24, "shrink", PromisesTest::p24Shrink);
        test(25, "join", PromisesTest::p25Join);
        test(26, "improve", PromisesTest::p26Improve);
        test(27, "sweep", PromisesTest::p27Sweep);
        test(28, "run", PromisesTest::p28Run);
        test(29, "executed", PromisesTest::p29Executed);
        test(30, "taken", PromisesTest::p30Taken);
        test(31, "escaped", PromisesTest::p31Escaped);
        test(32, "way", PromisesTest::p32Way);
        test(33, "digest", PromisesTest::p33Digest);
        test(1, "all full", PromisesTest::fullEverywhere);
        finish();
    }
}
