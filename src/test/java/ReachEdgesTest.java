/** Promises 18 to 22: one test for each sentence that names a boundary case. */
public final class ReachEdgesTest extends Due {
    private ReachEdgesTest() {
    }

    private static void p18NoSuchInstruction() {
        HandlerOptimizer x = new HandlerOptimizer();
        dueThrow("isReached(0) of no code", x, INDEX, o -> o.isReached(0));
        x.jump(47);
        for (int no : row(-1, 1, 47, 48, MIN, MAX)) {
            dueThrow("isReached(" + no + ")", x, INDEX, o -> o.isReached(no));
        }
        HandlerOptimizer full = withFullCode();
        due("isReached(47)", full.isReached(47), true);
        dueThrow("isReached(48)", full, INDEX, o -> o.isReached(48));
    }

    private static void p18InstructionZero() {
        HandlerOptimizer x = new HandlerOptimizer();
        x.end();
        dueReached(x, 1);
        HandlerOptimizer y = new HandlerOptimizer();
        y.raise(0);
        dueReached(y, 1);
    }

    private static void p18NextIsNotThere() {
        HandlerOptimizer x = new HandlerOptimizer();
        x.step(0);
        dueReached(x, 1);
        x.branch(0, 2);
        dueReached(x, 1, 1);
        x.step(0);
        dueReached(x, 1, 1, 1);
        HandlerOptimizer full = withFullCode();
        full.addEntry(47, 48, 0, 47);
        due("isReached(47)", full.isReached(47), true);
    }

    private static void p18TargetIsNotThere() {
        HandlerOptimizer jump = new HandlerOptimizer();
        jump.jump(2);
        jump.end();
        dueReached(jump, 1, 0);
        jump.step(0);
        dueReached(jump, 1, 0, 1);
        HandlerOptimizer branch = new HandlerOptimizer();
        branch.branch(0, 3);
        branch.end();
        branch.end();
        dueReached(branch, 1, 1, 0);
        branch.step(0);
        dueReached(branch, 1, 1, 0, 1);
        HandlerOptimizer last = new HandlerOptimizer();
        last.branch(0, 47);
        last.jump(47);
        dueReached(last, 1, 1);
    }

    private static void p18EntrysTargetIsNotThere() {
        HandlerOptimizer x = new HandlerOptimizer();
        x.raise(0);
        x.end();
        x.addEntry(0, 1, 0, 2);
        dueReached(x, 1, 0);
        x.end();
        dueReached(x, 1, 0, 1);
    }

    private static void p18NoEntryTakesIt() {
        HandlerOptimizer x = withTree();
        x.raise(1);
        x.end();
        x.end();
        x.addEntry(1, 48, 0, 1);
        x.addEntry(0, 1, 3, 1);
        x.addEntry(0, 1, 2, 2);
        dueReached(x, 1, 0, 0);
    }

    private static void p18TheTakersTargetAlone() {
        HandlerOptimizer x = new HandlerOptimizer();
        x.raise(0);
        x.end();
        x.end();
        x.addEntry(0, 1, 0, 2);
        x.addEntry(0, 1, 0, 1);
        dueReached(x, 1, 0, 1);
    }

    private static void p18NothingBehindJumpEndAndRaise() {
        HandlerOptimizer jump = new HandlerOptimizer();
        jump.jump(2);
        jump.end();
        jump.end();
        dueReached(jump, 1, 0, 1);
        HandlerOptimizer end = new HandlerOptimizer();
        end.end();
        end.end();
        dueReached(end, 1, 0);
        HandlerOptimizer raise = new HandlerOptimizer();
        raise.raise(0);
        raise.end();
        dueReached(raise, 1, 0);
    }

    private static void p18FromWhatIsReachedAlone() {
        HandlerOptimizer x = new HandlerOptimizer();
        x.end();
        x.jump(4);
        x.branch(0, 4);
        x.raise(0);
        x.end();
        x.addEntry(3, 4, 0, 4);
        dueReached(x, 1, 0, 0, 0, 0);
    }

    /** Backwards through all of it, and round again. */
    private static void p18LoopsThroughAll48() {
        HandlerOptimizer x = new HandlerOptimizer();
        x.jump(47);
        for (int i = 1; i < 48; i++) {
            x.jump(i - 1);
        }
        for (int i = 0; i < 48; i++) {
            due("isReached(" + i + ")", x.isReached(i), true);
        }
    }

    private static void p18NoMoreBehindAChange() {
        HandlerOptimizer x = new HandlerOptimizer();
        x.step(1);
        x.end();
        x.step(0);
        x.end();
        x.addEntry(0, 1, 0, 2);
        dueReached(x, 1, 1, 1, 1);
        x.removeEntry(0);
        due("isReached(3)", x.isReached(3), false);
        dueReached(x, 1, 1, 0, 0);
    }

    private static void p19NoSuchEntry() {
        HandlerOptimizer x = new HandlerOptimizer();
        x.step(1);
        dueThrow("isUsed(0) of none", x, INDEX, o -> o.isUsed(0));
        x.addEntry(0, 1, 0, 0);
        for (int no : row(-1, 1, 23, 24, MIN, MAX)) {
            dueThrow("isUsed(" + no + ")", x, INDEX, o -> o.isUsed(no));
        }
        HandlerOptimizer full = withFullTable();
        due("isUsed(23)", full.isUsed(23), false);
        dueThrow("isUsed(24)", full, INDEX, o -> o.isUsed(24));
    }

    private static void p19NoCode() {
        HandlerOptimizer x = new HandlerOptimizer();
        x.addEntry(0, 48, 0, 0);
        due("isUsed(0)", x.isUsed(0), false);
    }

    private static void p19NotReached() {
        HandlerOptimizer x = new HandlerOptimizer();
        x.end();
        x.raise(0);
        x.addEntry(0, 48, 0, 0);
        due("isUsed(0)", x.isUsed(0), false);
    }

    private static void p19NotThrown() {
        HandlerOptimizer x = withTree();
        x.step(1 | 4);
        x.addEntry(0, 1, 1, 0);
        due("isUsed(0)", x.isUsed(0), false);
        x.step(32);
        due("isUsed(0), out of its range", x.isUsed(0), false);
        x.addEntry(1, 2, 1, 0);
        due("isUsed(1)", x.isUsed(1), true);
    }

    private static void p19TakenAhead() {
        HandlerOptimizer x = new HandlerOptimizer();
        x.step(1);
        x.addEntry(0, 1, 0, 5);
        x.addEntry(0, 1, 0, 5);
        due("isUsed(0)", x.isUsed(0), true);
        due("isUsed(1)", x.isUsed(1), false);
    }

    private static void p19FirstAndLastOfAll() {
        HandlerOptimizer x = withFullCode();
        for (int e = 0; e < 23; e++) {
            x.addEntry(0, 1, 0, 47);
        }
        x.addEntry(47, 48, 0, 47);
        due("isUsed(0)", x.isUsed(0), true);
        due("isUsed(22)", x.isUsed(22), false);
        due("isUsed(23)", x.isUsed(23), true);
    }

    private static void p19TargetNotThere() {
        HandlerOptimizer x = new HandlerOptimizer();
        x.raise(0);
        x.addEntry(0, 1, 0, 47);
        due("isUsed(0)", x.isUsed(0), true);
    }

    private static void p19NoMoreBehindAChange() {
        HandlerOptimizer x = new HandlerOptimizer();
        x.step(1);
        x.addEntry(0, 1, 0, 9);
        x.addEntry(1, 2, 0, 9);
        due("isUsed(0)", x.isUsed(0), true);
        x.removeEntry(0);
        due("isUsed(0) of the one behind it", x.isUsed(0), false);
    }

    private static void p20NoCode() {
        HandlerOptimizer x = withAllKinds();
        due("leaving", x.leaving(), 0);
        x.addEntry(0, 48, 0, 0);
        due("leaving", x.leaving(), 0);
    }

    private static void p20AllKinds() {
        HandlerOptimizer x = withAllKinds();
        x.step(255);
        due("leaving", x.leaving(), 255);
    }

    private static void p20NoneLeaves() {
        HandlerOptimizer x = withAllKinds();
        x.step(255);
        x.addEntry(0, 1, 0, 47);
        due("leaving", x.leaving(), 0);
        HandlerOptimizer y = withAllKinds();
        y.step(0);
        y.jump(2);
        y.end();
        due("leaving of what throws nothing", y.leaving(), 0);
    }

    private static void p20NotReached() {
        HandlerOptimizer x = withAllKinds();
        x.step(1);
        x.end();
        x.step(255);
        due("leaving", x.leaving(), 1);
    }

    private static void p20LeavesFromOneAlone() {
        HandlerOptimizer x = withKinds(0);
        withSteps(x, 3, 3, 3);
        x.addEntry(0, 2, 0, 0);
        x.addEntry(2, 3, 1, 0);
        due("leaving", x.leaving(), 1);
    }

    private static void p20AtTheLastOf48() {
        HandlerOptimizer x = withFullCode();
        x.addEntry(0, 47, 0, 0);
        due("leaving", x.leaving(), 1);
        x.addEntry(47, 48, 0, 0);
        due("leaving", x.leaving(), 0);
    }

    private static void p21NoPairs() {
        HandlerOptimizer x = withAllKinds();
        dueShare(x, 0.0);
        x.addEntry(0, 48, 0, 0);
        dueShare(x, 0.0);
        x.step(0);
        dueShare(x, 0.0);
        x.end();
        x.step(255);
        dueShare(x, 0.0);
    }

    private static void p21AllTaken() {
        HandlerOptimizer x = withAllKinds();
        withSteps(x, 255, 1, 128);
        x.addEntry(0, 3, 0, 47);
        dueShare(x, 1.0);
    }

    private static void p21NoneTaken() {
        HandlerOptimizer x = withAllKinds();
        withSteps(x, 255, 1, 128);
        dueShare(x, 0.0);
        x.addEntry(3, 48, 0, 47);
        dueShare(x, 0.0);
    }

    private static void p21AllPairsThatThereCanBe() {
        HandlerOptimizer x = withAllKinds();
        for (int i = 0; i < 48; i++) {
            x.step(255);
        }
        x.addEntry(47, 48, 7, 0);
        dueShare(x, 1.0 / 384.0);
        x.addEntry(0, 47, 0, 0);
        dueShare(x, 377.0 / 384.0);
    }

    private static void p21ReachedAlone() {
        HandlerOptimizer x = new HandlerOptimizer();
        x.step(1);
        x.jump(3);
        x.step(1);
        x.raise(0);
        x.addEntry(0, 1, 0, 3);
        dueShare(x, 0.5);
        x.addEntry(2, 3, 0, 3);
        dueShare(x, 0.5);
    }

    private static void p22NoCode() {
        HandlerOptimizer x = new HandlerOptimizer();
        due("parts", x.parts(), 0);
        x.addEntry(0, 20, 0, 0);
        x.addEntry(20, 48, 0, 1);
        due("parts", x.parts(), 0);
    }

    private static void p22OneInstruction() {
        HandlerOptimizer x = withAllKinds();
        x.end();
        due("parts", x.parts(), 1);
        x.addEntry(0, 1, 3, 0);
        due("parts", x.parts(), 1);
    }

    private static void p22NoEntries() {
        HandlerOptimizer x = withFullCode();
        due("parts", x.parts(), 1);
        x.addEntry(0, 48, 0, 0);
        due("one entry for all", x.parts(), 1);
    }

    private static void p22EachByItself() {
        HandlerOptimizer x = withFullCode();
        for (int e = 0; e < 24; e++) {
            x.addEntry(2 * e, 2 * e + 1, 0, 0);
        }
        due("parts", x.parts(), 48);
    }

    private static void p22WhetherThrownOrNot() {
        HandlerOptimizer x = withAllKinds();
        withSteps(x, 0, 0, 0);
        x.addEntry(1, 2, 7, 5);
        due("parts", x.parts(), 3);
    }

    private static void p22WhetherReachedOrNot() {
        HandlerOptimizer x = new HandlerOptimizer();
        x.end();
        x.end();
        x.end();
        x.addEntry(2, 3, 0, 5);
        due("parts", x.parts(), 2);
    }

    private static void p22LeavingIsNoTarget() {
        HandlerOptimizer x = new HandlerOptimizer();
        withSteps(x, 1, 1);
        x.addEntry(1, 2, 0, 0);
        due("to 0, or leaving", x.parts(), 2);
        HandlerOptimizer y = new HandlerOptimizer();
        withSteps(y, 1, 1);
        y.addEntry(1, 2, 0, 47);
        due("to one that is not there, or leaving", y.parts(), 2);
    }

    private static void p22SameTargetByOtherEntries() {
        HandlerOptimizer x = withKinds(0);
        withSteps(x, 3, 3, 3);
        x.addEntry(0, 1, 0, 9);
        x.addEntry(1, 2, 1, 9);
        x.addEntry(1, 3, 0, 9);
        due("parts", x.parts(), 1);
    }

    private static void p22EachKindByItself() {
        HandlerOptimizer x = withKinds(0);
        withSteps(x, 3, 3);
        x.addEntry(0, 1, 1, 8);
        x.addEntry(0, 1, 0, 9);
        x.addEntry(1, 2, 1, 9);
        x.addEntry(1, 2, 0, 8);
        due("two kinds change their targets", x.parts(), 2);
        HandlerOptimizer y = withKinds(0);
        withSteps(y, 3, 3);
        y.addEntry(0, 2, 1, 8);
        y.addEntry(0, 2, 0, 9);
        due("two kinds keep two targets", y.parts(), 1);
    }

    private static void p22InstructionsThatFollowEachOther() {
        HandlerOptimizer x = new HandlerOptimizer();
        withSteps(x, 1, 1, 1, 1, 1);
        x.addEntry(0, 2, 0, 9);
        x.addEntry(3, 5, 0, 9);
        due("parts", x.parts(), 3);
    }

    private static void p22TheLastOf48() {
        HandlerOptimizer x = withFullCode();
        x.addEntry(47, 48, 0, 9);
        due("parts", x.parts(), 2);
    }

    public static void main(String[] args) {
        test(18, "throws if there is no such instruction", ReachEdgesTest::p18NoSuchInstruction);
        test(18, "instruction 0, if it is there", ReachEdgesTest::p18InstructionZero);
        test(18, "the next one, if it is there", ReachEdgesTest::p18NextIsNotThere);
        test(18, "the target, if it is there", ReachEdgesTest::p18TargetIsNotThere);
        test(18, "the entry's target, if it is there", ReachEdgesTest::p18EntrysTargetIsNotThere);
        test(18, "the entry that takes it, if there is one", ReachEdgesTest::p18NoEntryTakesIt);
        test(18, "the target of the first that takes it", ReachEdgesTest::p18TheTakersTargetAlone);
        test(18, "a JUMP, an END and a RAISE do not go on with the next",
                ReachEdgesTest::p18NothingBehindJumpEndAndRaise);
        test(18, "with each instruction that is reached",
                ReachEdgesTest::p18FromWhatIsReachedAlone);
        test(18, "all 48, in a loop", ReachEdgesTest::p18LoopsThroughAll48);
        test(18, "no more, when the entry is removed", ReachEdgesTest::p18NoMoreBehindAChange);
        test(19, "throws if there is no such entry", ReachEdgesTest::p19NoSuchEntry);
        test(19, "not used without instructions", ReachEdgesTest::p19NoCode);
        test(19, "used by a reached instruction", ReachEdgesTest::p19NotReached);
        test(19, "used for a kind that can be thrown", ReachEdgesTest::p19NotThrown);
        test(19, "used if it takes the error, not one ahead", ReachEdgesTest::p19TakenAhead);
        test(19, "the first and the last of 24", ReachEdgesTest::p19FirstAndLastOfAll);
        test(19, "used, though its target is not there", ReachEdgesTest::p19TargetNotThere);
        test(19, "no more, when another has its number", ReachEdgesTest::p19NoMoreBehindAChange);
        test(20, "the empty set without instructions", ReachEdgesTest::p20NoCode);
        test(20, "the set of all 8 kinds", ReachEdgesTest::p20AllKinds);
        test(20, "the empty set if none leaves", ReachEdgesTest::p20NoneLeaves);
        test(20, "kinds that reached instructions can throw", ReachEdgesTest::p20NotReached);
        test(20, "a kind that leaves from one place", ReachEdgesTest::p20LeavesFromOneAlone);
        test(20, "from the last of 48", ReachEdgesTest::p20AtTheLastOf48);
        test(21, "0 if there are none", ReachEdgesTest::p21NoPairs);
        test(21, "1 if all are taken", ReachEdgesTest::p21AllTaken);
        test(21, "0 if none is taken", ReachEdgesTest::p21NoneTaken);
        test(21, "48 instructions with 8 kinds each", ReachEdgesTest::p21AllPairsThatThereCanBe);
        test(21, "pairs of a reached instruction", ReachEdgesTest::p21ReachedAlone);
        test(22, "no part without instructions", ReachEdgesTest::p22NoCode);
        test(22, "one instruction is a part", ReachEdgesTest::p22OneInstruction);
        test(22, "all leave without entries: one part", ReachEdgesTest::p22NoEntries);
        test(22, "48 parts", ReachEdgesTest::p22EachByItself);
        test(22, "whether its errors can be thrown or not", ReachEdgesTest::p22WhetherThrownOrNot);
        test(22, "parts of the code, reached or not", ReachEdgesTest::p22WhetherReachedOrNot);
        test(22, "the same target, or leave the code", ReachEdgesTest::p22LeavingIsNoTarget);
        test(22, "the same target, not the same entry",
                ReachEdgesTest::p22SameTargetByOtherEntries);
        test(22, "for each kind by itself", ReachEdgesTest::p22EachKindByItself);
        test(22, "instructions that follow each other",
                ReachEdgesTest::p22InstructionsThatFollowEachOther);
        test(22, "as great as can be, to the last of 48", ReachEdgesTest::p22TheLastOf48);
        finish();
    }
}
