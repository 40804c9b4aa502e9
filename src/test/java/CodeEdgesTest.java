/** Promises 6 to 12: one test for each sentence that names a boundary case. */
public final class CodeEdgesTest extends Due {
    private CodeEdgesTest() {
    }

    /** With each number of kinds: all that are there, and one more. */
    private static void p06NoKindThrown() {
        HandlerOptimizer x = new HandlerOptimizer();
        for (int count = 1; count <= 8; count++) {
            int most = (1 << count) - 1;
            for (int no : row(1 << count, most + 2, -1, -2, 1 << 30, MIN, MIN + 1, MAX)) {
                dueThrow("step(" + no + ") with " + count, x, ARGUMENT, o -> o.step(no));
            }
            due("step(" + most + ")", x.step(most), count - 1);
            if (count < 8) {
                x.addKind(0);
            }
        }
    }

    private static void p06EmptySet() {
        HandlerOptimizer x = new HandlerOptimizer();
        due("step(0)", x.step(0), 0);
        dueInstruction(x, 0, 0, 0, -1);
    }

    private static void p06FullSet() {
        HandlerOptimizer x = withAllKinds();
        due("step(255)", x.step(255), 0);
        dueInstruction(x, 0, 0, 255, -1);
        dueThrow("step(256)", x, ARGUMENT, o -> o.step(256));
    }

    private static void p06FullCode() {
        HandlerOptimizer x = withFullCode();
        dueThrow("step(0)", x, STATE, o -> o.step(0));
        dueThrow("step(1)", x, STATE, o -> o.step(1));
    }

    private static void p06ArgumentIsNamedFirst() {
        HandlerOptimizer x = withFullCode();
        for (int no : row(2, -1, MIN, MAX)) {
            dueThrow("step(" + no + ")", x, ARGUMENT, o -> o.step(no));
        }
    }

    private static void p06RefusedChangesNothing() {
        HandlerOptimizer x = new HandlerOptimizer();
        dueThrow("step(2)", x, ARGUMENT, o -> o.step(2));
        due("size", x.size(), 0);
        due("step(1)", x.step(1), 0);
        dueDigest(x, 1, 1, 0, 1, -1, 0, 0, 0, -1);
    }

    private static void p07TargetTooSmall() {
        HandlerOptimizer x = new HandlerOptimizer();
        for (int no : row(-1, -2, -48, MIN)) {
            dueThrow("jump(" + no + ")", x, ARGUMENT, o -> o.jump(no));
        }
        due("jump(0)", x.jump(0), 0);
        dueInstruction(x, 0, 1, 0, 0);
    }

    private static void p07TargetTooLarge() {
        HandlerOptimizer x = new HandlerOptimizer();
        for (int no : row(48, 49, MAX)) {
            dueThrow("jump(" + no + ")", x, ARGUMENT, o -> o.jump(no));
        }
        due("jump(47)", x.jump(47), 0);
        dueInstruction(x, 0, 1, 0, 47);
    }

    private static void p07FullCode() {
        HandlerOptimizer x = withFullCode();
        dueThrow("jump(0)", x, STATE, o -> o.jump(0));
        dueThrow("jump(47)", x, STATE, o -> o.jump(47));
    }

    private static void p07ArgumentIsNamedFirst() {
        HandlerOptimizer x = withFullCode();
        for (int no : row(-1, 48, MIN, MAX)) {
            dueThrow("jump(" + no + ")", x, ARGUMENT, o -> o.jump(no));
        }
    }

    private static void p07RefusedChangesNothing() {
        HandlerOptimizer x = new HandlerOptimizer();
        dueThrow("jump(48)", x, ARGUMENT, o -> o.jump(48));
        due("size", x.size(), 0);
        due("jump(3)", x.jump(3), 0);
        dueDigest(x, 1, 1, 1, 0, 3, 0, 0, 0, -1);
    }

    private static void p07ThrowsNothing() {
        HandlerOptimizer x = withAllKinds();
        x.jump(0);
        due("the kinds that it can throw", x.instruction(0, 1), 0);
        due("leaving", x.leaving(), 0);
    }

    private static void p08NoKindThrown() {
        HandlerOptimizer x = new HandlerOptimizer();
        for (int count = 1; count <= 8; count++) {
            int most = (1 << count) - 1;
            for (int no : row(1 << count, most + 2, -1, -2, 1 << 30, MIN, MIN + 1, MAX)) {
                dueThrow("branch(" + no + ", 0)", x, ARGUMENT, o -> o.branch(no, 0));
            }
            due("branch(" + most + ", 0)", x.branch(most, 0), count - 1);
            if (count < 8) {
                x.addKind(0);
            }
        }
    }

    private static void p08TargetTooSmall() {
        HandlerOptimizer x = new HandlerOptimizer();
        for (int no : row(-1, -2, -48, MIN)) {
            dueThrow("branch(1, " + no + ")", x, ARGUMENT, o -> o.branch(1, no));
        }
        due("branch(1, 0)", x.branch(1, 0), 0);
        dueInstruction(x, 0, 2, 1, 0);
    }

    private static void p08TargetTooLarge() {
        HandlerOptimizer x = new HandlerOptimizer();
        for (int no : row(48, 49, MAX)) {
            dueThrow("branch(1, " + no + ")", x, ARGUMENT, o -> o.branch(1, no));
            dueThrow("branch(2, " + no + ")", x, ARGUMENT, o -> o.branch(2, no));
        }
        due("branch(0, 47)", x.branch(0, 47), 0);
        dueInstruction(x, 0, 2, 0, 47);
    }

    private static void p08FullSet() {
        HandlerOptimizer x = withAllKinds();
        due("branch(255, 5)", x.branch(255, 5), 0);
        dueInstruction(x, 0, 2, 255, 5);
    }

    private static void p08FullCode() {
        HandlerOptimizer x = withFullCode();
        dueThrow("branch(0, 0)", x, STATE, o -> o.branch(0, 0));
        dueThrow("branch(1, 47)", x, STATE, o -> o.branch(1, 47));
    }

    private static void p08ArgumentIsNamedFirst() {
        HandlerOptimizer x = withFullCode();
        dueThrow("branch(2, 0)", x, ARGUMENT, o -> o.branch(2, 0));
        dueThrow("branch(-1, 0)", x, ARGUMENT, o -> o.branch(-1, 0));
        dueThrow("branch(1, -1)", x, ARGUMENT, o -> o.branch(1, -1));
        dueThrow("branch(1, 48)", x, ARGUMENT, o -> o.branch(1, 48));
    }

    private static void p08RefusedChangesNothing() {
        HandlerOptimizer x = new HandlerOptimizer();
        dueThrow("branch(2, 0)", x, ARGUMENT, o -> o.branch(2, 0));
        dueThrow("branch(1, 48)", x, ARGUMENT, o -> o.branch(1, 48));
        due("size", x.size(), 0);
        due("branch(1, 7)", x.branch(1, 7), 0);
        dueDigest(x, 1, 1, 2, 1, 7, 0, 0, 0, -1);
    }

    private static void p09FullCode() {
        HandlerOptimizer x = new HandlerOptimizer();
        for (int i = 0; i < 48; i++) {
            due("end", x.end(), i);
        }
        dueThrow("the 49th", x, STATE, o -> o.end());
        due("size", x.size(), 48);
    }

    private static void p09RefusedChangesNothing() {
        HandlerOptimizer x = withFullCode();
        dueThrow("end", x, STATE, o -> o.end());
        due("size", x.size(), 48);
        dueInstruction(x, 47, 0, 1, -1);
        dueInstruction(x, 0, 0, 1, -1);
    }

    private static void p09ThrowsNothing() {
        HandlerOptimizer x = withAllKinds();
        x.end();
        due("the kinds that it can throw", x.instruction(0, 1), 0);
        due("leaving", x.leaving(), 0);
    }

    private static void p10NoSuchKind() {
        HandlerOptimizer x = new HandlerOptimizer();
        for (int count = 1; count <= 8; count++) {
            for (int no : row(-1, count, 8, 31, 32, MIN, MAX)) {
                dueThrow("raise(" + no + ") with " + count, x, INDEX, o -> o.raise(no));
            }
            due("raise", x.raise(count - 1), count - 1);
            if (count < 8) {
                x.addKind(0);
            }
        }
    }

    private static void p10ThrowsItsKindAlone() {
        HandlerOptimizer x = withAllKinds();
        for (int kind = 0; kind < 8; kind++) {
            x.raise(kind);
            dueInstruction(x, kind, 4, 1 << kind, -1);
        }
    }

    private static void p10FullCode() {
        HandlerOptimizer x = withFullCode();
        dueThrow("raise(0)", x, STATE, o -> o.raise(0));
    }

    private static void p10IndexIsNamedFirst() {
        HandlerOptimizer x = withFullCode();
        for (int no : row(-1, 1, 8, MIN, MAX)) {
            dueThrow("raise(" + no + ")", x, INDEX, o -> o.raise(no));
        }
    }

    private static void p10RefusedChangesNothing() {
        HandlerOptimizer x = new HandlerOptimizer();
        dueThrow("raise(1)", x, INDEX, o -> o.raise(1));
        due("size", x.size(), 0);
        due("raise(0)", x.raise(0), 0);
        dueDigest(x, 1, 1, 4, 1, -1, 0, 0, 0, -1);
    }

    private static void p11FromNoneTo48() {
        HandlerOptimizer x = new HandlerOptimizer();
        for (int i = 0; i < 48; i++) {
            due("size", x.size(), i);
            x.jump(i);
        }
        due("the most", x.size(), 48);
    }

    private static void p11RefusedDoNotCount() {
        HandlerOptimizer x = new HandlerOptimizer();
        dueThrow("step", x, ARGUMENT, o -> o.step(2));
        dueThrow("jump", x, ARGUMENT, o -> o.jump(48));
        dueThrow("branch", x, ARGUMENT, o -> o.branch(0, -1));
        dueThrow("raise", x, INDEX, o -> o.raise(1));
        due("size", x.size(), 0);
        HandlerOptimizer full = withFullCode();
        dueThrow("end", full, STATE, o -> o.end());
        due("size", full.size(), 48);
    }

    private static void p12NoSuchInstruction() {
        HandlerOptimizer x = new HandlerOptimizer();
        dueThrow("instruction(0, 0) of no code", x, INDEX, o -> o.instruction(0, 0));
        x.end();
        for (int no : row(-1, 1, 47, 48, MIN, MAX)) {
            for (int what = 0; what < 3; what++) {
                int asked = what;
                dueThrow("instruction(" + no + ", " + what + ")", x, INDEX,
                        o -> o.instruction(no, asked));
            }
        }
    }

    private static void p12TheLastOfFullCode() {
        HandlerOptimizer x = new HandlerOptimizer();
        for (int i = 0; i < 47; i++) {
            x.end();
        }
        x.branch(1, 46);
        dueInstruction(x, 47, 2, 1, 46);
        dueThrow("instruction(48, 0)", x, INDEX, o -> o.instruction(48, 0));
    }

    private static void p12WhatTooSmall() {
        HandlerOptimizer x = new HandlerOptimizer();
        x.jump(9);
        for (int no : row(-1, -2, MIN)) {
            dueThrow("instruction(0, " + no + ")", x, INDEX, o -> o.instruction(0, no));
        }
        due("instruction(0, 0)", x.instruction(0, 0), 1);
    }

    private static void p12WhatTooLarge() {
        HandlerOptimizer x = new HandlerOptimizer();
        x.jump(9);
        for (int no : row(3, 4, MAX)) {
            dueThrow("instruction(0, " + no + ")", x, INDEX, o -> o.instruction(0, no));
        }
        due("instruction(0, 2)", x.instruction(0, 2), 9);
    }

    private static void p12BothWrong() {
        HandlerOptimizer x = new HandlerOptimizer();
        x.end();
        dueThrow("instruction(1, 3)", x, INDEX, o -> o.instruction(1, 3));
        dueThrow("instruction(-1, -1)", x, INDEX, o -> o.instruction(-1, -1));
    }

    private static void p12NoTarget() {
        HandlerOptimizer x = new HandlerOptimizer();
        x.step(1);
        due("target of a STEP", x.instruction(0, 2), -1);
        x.end();
        due("target of an END", x.instruction(1, 2), -1);
        x.raise(0);
        due("target of a RAISE", x.instruction(2, 2), -1);
    }

    private static void p12TargetZero() {
        HandlerOptimizer x = new HandlerOptimizer();
        x.jump(0);
        due("target of a JUMP", x.instruction(0, 2), 0);
        x.branch(0, 0);
        due("target of a BRANCH", x.instruction(1, 2), 0);
    }

    public static void main(String[] args) {
        test(6, "throws if thrown contains something that is no kind",
                CodeEdgesTest::p06NoKindThrown);
        test(6, "the empty set is 0", CodeEdgesTest::p06EmptySet);
        test(6, "the set of all 8 kinds is 255", CodeEdgesTest::p06FullSet);
        test(6, "throws if there are 48 instructions", CodeEdgesTest::p06FullCode);
        test(6, "the exception that is named first", CodeEdgesTest::p06ArgumentIsNamedFirst);
        test(6, "a refused call changes nothing", CodeEdgesTest::p06RefusedChangesNothing);
        test(7, "throws if target is less than 0", CodeEdgesTest::p07TargetTooSmall);
        test(7, "throws if target is more than 47", CodeEdgesTest::p07TargetTooLarge);
        test(7, "throws if there are 48 instructions", CodeEdgesTest::p07FullCode);
        test(7, "the exception that is named first", CodeEdgesTest::p07ArgumentIsNamedFirst);
        test(7, "a refused call changes nothing", CodeEdgesTest::p07RefusedChangesNothing);
        test(7, "a JUMP can throw nothing", CodeEdgesTest::p07ThrowsNothing);
        test(8, "throws if thrown contains something that is no kind",
                CodeEdgesTest::p08NoKindThrown);
        test(8, "throws if target is less than 0", CodeEdgesTest::p08TargetTooSmall);
        test(8, "throws if target is more than 47", CodeEdgesTest::p08TargetTooLarge);
        test(8, "the set of all 8 kinds is 255", CodeEdgesTest::p08FullSet);
        test(8, "throws if there are 48 instructions", CodeEdgesTest::p08FullCode);
        test(8, "the exception that is named first", CodeEdgesTest::p08ArgumentIsNamedFirst);
        test(8, "a refused call changes nothing", CodeEdgesTest::p08RefusedChangesNothing);
        test(9, "throws if there are 48 instructions", CodeEdgesTest::p09FullCode);
        test(9, "a refused call changes nothing", CodeEdgesTest::p09RefusedChangesNothing);
        test(9, "an END can throw nothing", CodeEdgesTest::p09ThrowsNothing);
        test(10, "throws if there is no such kind", CodeEdgesTest::p10NoSuchKind);
        test(10, "its kind is the one that it can throw", CodeEdgesTest::p10ThrowsItsKindAlone);
        test(10, "throws if there are 48 instructions", CodeEdgesTest::p10FullCode);
        test(10, "the exception that is named first", CodeEdgesTest::p10IndexIsNamedFirst);
        test(10, "a refused call changes nothing", CodeEdgesTest::p10RefusedChangesNothing);
        test(11, "none at first, at most 48", CodeEdgesTest::p11FromNoneTo48);
        test(11, "refused ones do not count", CodeEdgesTest::p11RefusedDoNotCount);
        test(12, "throws if there is no such instruction", CodeEdgesTest::p12NoSuchInstruction);
        test(12, "the last of 48 is there", CodeEdgesTest::p12TheLastOfFullCode);
        test(12, "throws if what is less than 0", CodeEdgesTest::p12WhatTooSmall);
        test(12, "throws if what is more than 2", CodeEdgesTest::p12WhatTooLarge);
        test(12, "throws if both are wrong", CodeEdgesTest::p12BothWrong);
        test(12, "the target is -1 for a STEP, an END and a RAISE", CodeEdgesTest::p12NoTarget);
        test(12, "the target 0 is one", CodeEdgesTest::p12TargetZero);
        finish();
    }
}
