/** Promises 28 to 33: one test for each sentence that names a boundary case. */
public final class RunEdgesTest extends Due {
    private static final long MOST_CHOICES = Long.MAX_VALUE;

    private RunEdgesTest() {
    }

    private static HandlerOptimizer withEnd() {
        HandlerOptimizer x = new HandlerOptimizer();
        x.end();
        return x;
    }

    private static HandlerOptimizer withRaise(int kinds) {
        HandlerOptimizer x = new HandlerOptimizer();
        for (int k = 1; k < kinds; k++) {
            x.addKind(0);
        }
        x.raise(kinds - 1);
        return x;
    }

    private static void p28ChoicesNegative() {
        HandlerOptimizer x = withEnd();
        for (long no : new long[] {-1, -2, -MOST_CHOICES, Long.MIN_VALUE}) {
            dueThrow("run(" + no + ", 5)", x, ARGUMENT, o -> o.run(no, 5));
        }
        dueRun(x, 0, 5, 0, 1, 0, -1);
        for (long no : new long[] {-1, Long.MIN_VALUE}) {
            dueThrow("run(" + no + ", 5)", x, ARGUMENT, o -> o.run(no, 5));
        }
    }

    private static void p28MostTooSmall() {
        HandlerOptimizer x = withEnd();
        for (int no : row(-1, -2, -500, MIN)) {
            dueThrow("run(0, " + no + ")", x, ARGUMENT, o -> o.run(0, no));
        }
        dueRun(x, 0, 0, 2, 0, 0, -1);
    }

    private static void p28MostTooLarge() {
        HandlerOptimizer x = withEnd();
        for (int no : row(501, 502, MAX)) {
            dueThrow("run(0, " + no + ")", x, ARGUMENT, o -> o.run(0, no));
        }
        dueRun(x, 0, 500, 0, 1, 0, -1);
    }

    private static void p28BothWrong() {
        HandlerOptimizer x = withEnd();
        dueThrow("run(-1, -1)", x, ARGUMENT, o -> o.run(-1, -1));
        dueThrow("run(-1, 501)", x, ARGUMENT, o -> o.run(-1, 501));
    }

    private static void p28RefusedChangesNothing() {
        HandlerOptimizer x = withRaise(3);
        x.addEntry(0, 1, 1, 0);
        dueRun(x, 0, 5, 1, 1, 0, 2);
        long way = x.way();
        dueThrow("run(-1, 5)", x, ARGUMENT, o -> o.run(-1, 5));
        dueThrow("run(0, 501)", x, ARGUMENT, o -> o.run(0, 501));
        dueThrow("run(0, -1)", x, ARGUMENT, o -> o.run(0, -1));
        due("executed", x.executed(), 1);
        due("taken", x.taken(), 0);
        due("escaped", x.escaped(), 2);
        due("way", x.way(), way);
    }

    private static void p28ARunChangesNoCode() {
        HandlerOptimizer x = withKinds(0);
        x.branch(3, 0);
        x.addEntry(0, 1, 1, 0);
        x.run(7, 20);
        due("executed", x.executed(), 3);
        dueInstruction(x, 0, 2, 3, 0);
        dueTable(x, row(0, 1, 1, 0));
        due("kindCount", x.kindCount(), 2);
    }

    private static void p28NoInstructions() {
        HandlerOptimizer x = new HandlerOptimizer();
        x.addEntry(0, 48, 0, 0);
        dueRun(x, 0, 0, 0, 0, 0, -1);
        dueRun(x, 0, 1, 0, 0, 0, -1);
        dueRun(x, MOST_CHOICES, 500, 0, 0, 0, -1);
    }

    private static void p28NoneAllowed() {
        HandlerOptimizer end = withEnd();
        dueRun(end, 0, 0, 2, 0, 0, -1);
        HandlerOptimizer raise = withRaise(1);
        dueRun(raise, 0, 0, 2, 0, 0, -1);
    }

    private static void p28EndCounts() {
        HandlerOptimizer x = withEnd();
        dueRun(x, 0, 1, 0, 1, 0, -1);
        dueRun(x, MOST_CHOICES, 500, 0, 1, 0, -1);
        dueWay(x, 3);
    }

    private static void p28EndAtTheLimit() {
        HandlerOptimizer x = new HandlerOptimizer();
        x.step(0);
        x.end();
        dueRun(x, 0, 1, 2, 1, 0, -1);
        dueRun(x, 0, 2, 0, 2, 0, -1);
        dueRun(x, 0, 3, 0, 2, 0, -1);
    }

    private static void p28OverTheLastOne() {
        HandlerOptimizer x = new HandlerOptimizer();
        x.step(0);
        dueRun(x, 0, 1, 0, 1, 0, -1);
        dueRun(x, 0, 500, 0, 1, 0, -1);
        HandlerOptimizer full = new HandlerOptimizer();
        for (int i = 0; i < 48; i++) {
            full.branch(0, 0);
        }
        dueRun(full, 0, 47, 2, 47, 0, -1);
        dueRun(full, 0, 48, 0, 48, 0, -1);
    }

    private static void p28TargetNotThere() {
        HandlerOptimizer jump = new HandlerOptimizer();
        jump.jump(1);
        dueRun(jump, 0, 1, 0, 1, 0, -1);
        HandlerOptimizer branch = new HandlerOptimizer();
        branch.branch(0, 47);
        branch.end();
        dueRun(branch, 1, 1, 0, 1, 0, -1);
        dueRun(branch, 0, 1, 2, 1, 0, -1);
    }

    private static void p28EntrysTargetNotThere() {
        HandlerOptimizer x = withRaise(1);
        x.addEntry(0, 1, 0, 1);
        dueRun(x, 0, 1, 0, 1, 1, -1);
        dueRun(x, 0, 500, 0, 1, 1, -1);
    }

    private static void p28LeftAtTheLimit() {
        HandlerOptimizer x = new HandlerOptimizer();
        x.step(0);
        x.raise(0);
        dueRun(x, 0, 1, 2, 1, 0, -1);
        dueRun(x, 0, 2, 1, 2, 0, 0);
        dueRun(x, 0, 3, 1, 2, 0, 0);
    }

    private static void p28TakenAtTheLimit() {
        HandlerOptimizer x = withRaise(1);
        x.end();
        x.addEntry(0, 1, 0, 1);
        dueRun(x, 0, 1, 2, 1, 1, -1);
        dueRun(x, 0, 2, 0, 2, 1, -1);
    }

    private static void p28LoopWithoutEnd() {
        HandlerOptimizer x = new HandlerOptimizer();
        x.jump(0);
        dueRun(x, MOST_CHOICES, 500, 2, 500, 0, -1);
        dueRun(x, 0, 499, 2, 499, 0, -1);
    }

    private static void p28BranchHasTwoWays() {
        HandlerOptimizer x = new HandlerOptimizer();
        x.branch(0, 2);
        x.step(0);
        x.end();
        dueRun(x, 0, 500, 0, 3, 0, -1);
        dueRun(x, 1, 500, 0, 2, 0, -1);
        dueRun(x, 2, 500, 0, 3, 0, -1);
        dueRun(x, 3, 500, 0, 2, 0, -1);
    }

    private static void p28KindsInAscendingOrder() {
        HandlerOptimizer x = withAllKinds();
        x.step(2 | 16 | 128);
        dueRun(x, 0, 500, 0, 1, 0, -1);
        dueRun(x, 1, 500, 1, 1, 0, 1);
        dueRun(x, 2, 500, 1, 1, 0, 4);
        dueRun(x, 3, 500, 1, 1, 0, 7);
        dueRun(x, 4, 500, 0, 1, 0, -1);
    }

    private static void p28TheMostOptions() {
        HandlerOptimizer x = withAllKinds();
        x.branch(255, 0);
        dueRun(x, 0, 500, 0, 1, 0, -1);
        dueRun(x, 1, 500, 0, 2, 0, -1);
        for (int kind = 0; kind < 8; kind++) {
            dueRun(x, 2 + kind, 500, 1, 1, 0, kind);
        }
        dueRun(x, 10, 500, 0, 1, 0, -1);
        dueRun(x, 91, 500, 1, 2, 0, 7);
    }

    /** A RAISE and a JUMP have one option each, which leaves the choices as they are. */
    private static void p28OneOption() {
        HandlerOptimizer x = withKinds(0);
        x.raise(1);
        x.jump(2);
        x.step(0);
        x.step(2);
        x.addEntry(0, 1, 0, 1);
        dueRun(x, 0, 500, 0, 4, 1, -1);
        dueRun(x, 1, 500, 1, 4, 1, 1);
        dueRun(x, 2, 500, 0, 4, 1, -1);
        dueRun(x, MOST_CHOICES, 500, 1, 4, 1, 1);
    }

    private static void p28RaiseCannotGoOn() {
        HandlerOptimizer x = withRaise(1);
        x.end();
        for (long choices : new long[] {0, 1, 2, 3, MOST_CHOICES}) {
            dueRun(x, choices, 500, 1, 1, 0, 0);
        }
    }

    /** With 3 and then 2 options: 5 is 2 modulo 3, then 5 / 3 is 1. */
    private static void p28RoundedDown() {
        HandlerOptimizer x = withKinds(0);
        x.step(3);
        x.end();
        x.step(1);
        x.end();
        x.addEntry(0, 1, 1, 2);
        dueRun(x, 2, 500, 0, 3, 1, -1);
        dueRun(x, 5, 500, 1, 2, 1, 0);
        dueRun(x, 8, 500, 0, 3, 1, -1);
        dueRun(x, 4, 500, 1, 1, 0, 0);
    }

    /** 2^63 - 1 halved again and again: 63 times to the target, then to the next. */
    private static void p28TheMostChoices() {
        HandlerOptimizer x = new HandlerOptimizer();
        x.branch(0, 0);
        x.end();
        dueRun(x, MOST_CHOICES, 500, 0, 65, 0, -1);
        dueRun(x, MOST_CHOICES, 63, 2, 63, 0, -1);
        dueRun(x, MOST_CHOICES, 64, 2, 64, 0, -1);
        dueRun(x, MOST_CHOICES - 1, 500, 0, 2, 0, -1);
    }

    private static void p28EachRunBeginsAtZero() {
        HandlerOptimizer x = new HandlerOptimizer();
        x.step(0);
        x.step(0);
        x.end();
        dueRun(x, 0, 2, 2, 2, 0, -1);
        dueRun(x, 0, 2, 2, 2, 0, -1);
        dueWay(x, 0, 0);
    }

    private static void p29NoRun() {
        HandlerOptimizer x = withEnd();
        due("executed", x.executed(), 0);
        dueThrow("run", x, ARGUMENT, o -> o.run(-1, 5));
        due("executed behind a refused run", x.executed(), 0);
    }

    private static void p29NothingExecuted() {
        HandlerOptimizer x = withEnd();
        x.run(0, 5);
        due("executed", x.executed(), 1);
        x.run(0, 0);
        due("executed", x.executed(), 0);
    }

    private static void p29TheMost() {
        HandlerOptimizer x = new HandlerOptimizer();
        x.jump(0);
        x.run(0, 500);
        due("executed", x.executed(), 500);
    }

    private static void p29TheLatest() {
        HandlerOptimizer x = new HandlerOptimizer();
        x.jump(0);
        x.run(0, 9);
        x.run(0, 4);
        due("executed", x.executed(), 4);
        x.end();
        x.sweep();
        due("executed behind a change", x.executed(), 4);
    }

    private static void p30NoRun() {
        HandlerOptimizer x = withRaise(1);
        x.addEntry(0, 1, 0, 0);
        due("taken", x.taken(), 0);
        dueThrow("run", x, ARGUMENT, o -> o.run(0, 501));
        due("taken behind a refused run", x.taken(), 0);
    }

    private static void p30TheMost() {
        HandlerOptimizer x = withRaise(8);
        x.addEntry(0, 1, 0, 0);
        dueRun(x, 0, 500, 2, 500, 500, -1);
        due("taken", x.taken(), 500);
    }

    private static void p30LeavingIsNotTaken() {
        HandlerOptimizer x = withRaise(1);
        x.raise(0);
        x.addEntry(0, 1, 0, 1);
        dueRun(x, 0, 500, 1, 2, 1, 0);
        due("taken", x.taken(), 1);
    }

    private static void p30TargetNotThere() {
        HandlerOptimizer x = withRaise(1);
        x.addEntry(0, 1, 0, 47);
        x.run(0, 500);
        due("taken", x.taken(), 1);
    }

    private static void p30TheLatest() {
        HandlerOptimizer x = withRaise(1);
        x.addEntry(0, 1, 0, 0);
        x.run(0, 9);
        x.run(0, 4);
        due("taken", x.taken(), 4);
        x.removeEntry(0);
        due("taken behind a change", x.taken(), 4);
        x.run(0, 4);
        due("taken", x.taken(), 0);
    }

    private static void p31NoRun() {
        HandlerOptimizer x = withRaise(1);
        due("escaped", x.escaped(), -1);
        dueThrow("run", x, ARGUMENT, o -> o.run(-1, 5));
        due("escaped behind a refused run", x.escaped(), -1);
    }

    private static void p31NoneDid() {
        HandlerOptimizer x = withRaise(1);
        x.run(0, 0);
        due("escaped from none", x.escaped(), -1);
        x.addEntry(0, 1, 0, 0);
        x.run(0, 5);
        due("escaped, but taken", x.escaped(), -1);
        HandlerOptimizer end = withEnd();
        end.run(0, 5);
        due("escaped from an END", end.escaped(), -1);
    }

    private static void p31TheFirstAndTheLastKind() {
        HandlerOptimizer first = withRaise(1);
        first.run(0, 1);
        due("escaped", first.escaped(), 0);
        HandlerOptimizer last = withRaise(8);
        last.run(0, 1);
        due("escaped", last.escaped(), 7);
    }

    private static void p31TheLatest() {
        HandlerOptimizer x = withRaise(3);
        x.run(0, 1);
        due("escaped", x.escaped(), 2);
        x.addEntry(0, 1, 0, 47);
        due("escaped behind a change", x.escaped(), 2);
        x.run(0, 1);
        due("escaped", x.escaped(), -1);
    }

    /** The second error leaves, not the first one. */
    private static void p31TheOneThatLeft() {
        HandlerOptimizer x = withKinds(0, 0);
        x.raise(1);
        x.raise(2);
        x.addEntry(0, 1, 0, 1);
        x.run(0, 500);
        due("escaped", x.escaped(), 2);
    }

    private static void p32NoRun() {
        HandlerOptimizer x = withEnd();
        due("way", x.way(), 0);
        dueThrow("run", x, ARGUMENT, o -> o.run(0, -1));
        due("way behind a refused run", x.way(), 0);
    }

    private static void p32NothingExecuted() {
        HandlerOptimizer none = new HandlerOptimizer();
        none.run(0, 500);
        due("way without code", none.way(), 7);
        HandlerOptimizer x = withEnd();
        x.run(0, 0);
        due("way of no instruction", x.way(), 7);
    }

    private static void p32FormsAndKinds() {
        HandlerOptimizer x = withAllKinds();
        x.step(0);
        x.branch(1, 3);
        x.end();
        x.jump(4);
        x.raise(7);
        x.raise(0);
        x.addEntry(4, 5, 7, 5);
        x.run(1, 500);
        dueWay(x, 0, 2, 1, 4, 17, 4, 10);
        x.run(0, 500);
        dueWay(x, 0, 2, 3);
        x.run(2, 500);
        dueWay(x, 0, 2, 10);
    }

    private static void p32WrapsAround() {
        HandlerOptimizer x = withRaise(8);
        x.addEntry(0, 1, 0, 0);
        int[] numbers = new int[1000];
        for (int i = 0; i < 1000; i++) {
            numbers[i] = i % 2 == 0 ? 4 : 17;
        }
        for (int most : row(1, 5, 6, 7, 8, 50, 499, 500)) {
            x.run(0, most);
            dueWay(x, java.util.Arrays.copyOf(numbers, 2 * most));
        }
        HandlerOptimizer steps = withFullCode();
        steps.run(0, 500);
        dueWay(steps, new int[48]);
    }

    private static void p32TheLatest() {
        HandlerOptimizer x = new HandlerOptimizer();
        x.step(0);
        x.end();
        x.run(0, 500);
        x.run(0, 1);
        dueWay(x, 0);
        x.sweep();
        x.improve();
        x.addKind(0);
        dueWay(x, 0);
        dueThrow("run", x, ARGUMENT, o -> o.run(-1, 1));
        dueWay(x, 0);
    }

    private static void p33OfANewObject() {
        HandlerOptimizer x = new HandlerOptimizer();
        dueDigest(x, 1, 0, 0, 0, 0, -1);
        due("digest, by hand", x.digest(), ((((((137L * 31 + 1) * 31) * 31) * 31) * 31) * 31) - 1);
    }

    private static void p33NoTarget() {
        HandlerOptimizer x = new HandlerOptimizer();
        x.step(1);
        x.end();
        x.raise(0);
        x.jump(0);
        x.branch(0, 0);
        dueDigest(x, 1, 5, 0, 1, -1, 3, 0, -1, 4, 1, -1, 1, 0, 0, 2, 0, 0, 0, 0, 0, -1);
    }

    private static void p33ParentsButOfKindZero() {
        HandlerOptimizer x = withKinds(0, 1, 1, 0, 4, 5, 3);
        dueDigest(x, 8, 0, 1, 1, 0, 4, 5, 3, 0, 0, 0, 0, -1);
    }

    private static void p33WhatTheRunTells() {
        HandlerOptimizer x = withRaise(1);
        x.raise(0);
        x.addEntry(0, 1, 0, 1);
        x.run(0, 500);
        dueDigest(x, 1, 2, 4, 1, -1, 4, 1, -1, 1, 0, 1, 0, 1, 2, 1, 0);
        x.run(0, 1);
        dueDigest(x, 1, 2, 4, 1, -1, 4, 1, -1, 1, 0, 1, 0, 1, 1, 1, -1);
        x.run(0, 0);
        dueDigest(x, 1, 2, 4, 1, -1, 4, 1, -1, 1, 0, 1, 0, 1, 0, 0, -1);
    }

    private static void p33WrapsAround() {
        HandlerOptimizer x = withAllKinds();
        int[] numbers = new int[8 + 1 + 48 * 3 + 1 + 24 * 4 + 3];
        int at = 0;
        numbers[at++] = 8;
        at += 7;
        numbers[at++] = 48;
        for (int i = 0; i < 48; i++) {
            x.branch(255, 47 - i);
            numbers[at++] = 2;
            numbers[at++] = 255;
            numbers[at++] = 47 - i;
        }
        numbers[at++] = 24;
        for (int e = 0; e < 24; e++) {
            x.addEntry(e, 48, e % 8, 47 - e);
            numbers[at++] = e;
            numbers[at++] = 48;
            numbers[at++] = e % 8;
            numbers[at++] = 47 - e;
        }
        numbers[at + 2] = -1;
        dueDigest(x, numbers);
    }

    private static void p33NothingRemovedCounts() {
        HandlerOptimizer x = withFullTable();
        for (int left = 23; left >= 0; left--) {
            x.removeEntry(left);
        }
        x.end();
        x.jump(7);
        x.sweep();
        dueDigest(x, 1, 1, 3, 0, -1, 0, 0, 0, -1);
    }

    private static void p33ChangesNothing() {
        HandlerOptimizer x = withRaise(8);
        x.run(0, 3);
        long digest = x.digest();
        due("digest again", x.digest(), digest);
        due("escaped", x.escaped(), 7);
    }

    public static void main(String[] args) {
        test(28, "throws if choices is negative", RunEdgesTest::p28ChoicesNegative);
        test(28, "throws if most is less than 0", RunEdgesTest::p28MostTooSmall);
        test(28, "throws if most is more than 500", RunEdgesTest::p28MostTooLarge);
        test(28, "throws if both are wrong", RunEdgesTest::p28BothWrong);
        test(28, "a refused call changes nothing", RunEdgesTest::p28RefusedChangesNothing);
        test(28, "a run changes no code and no table", RunEdgesTest::p28ARunChangesNoCode);
        test(28, "0: instruction 0 is not there", RunEdgesTest::p28NoInstructions);
        test(28, "2: none is allowed, and one would be executed", RunEdgesTest::p28NoneAllowed);
        test(28, "an END counts as executed, too", RunEdgesTest::p28EndCounts);
        test(28, "0: an END as the last that is allowed; 2 ahead of it",
                RunEdgesTest::p28EndAtTheLimit);
        test(28, "0: the next instruction is not there", RunEdgesTest::p28OverTheLastOne);
        test(28, "0: the target is not there", RunEdgesTest::p28TargetNotThere);
        test(28, "0: the entry's target is not there", RunEdgesTest::p28EntrysTargetNotThere);
        test(28, "1: an error left at the last that is allowed", RunEdgesTest::p28LeftAtTheLimit);
        test(28, "2: an error was taken at the last that is allowed",
                RunEdgesTest::p28TakenAtTheLimit);
        test(28, "2: 500 were executed, and another one would be",
                RunEdgesTest::p28LoopWithoutEnd);
        test(28, "a BRANCH first with the next, then with its target",
                RunEdgesTest::p28BranchHasTwoWays);
        test(28, "then to throw each kind, in ascending order",
                RunEdgesTest::p28KindsInAscendingOrder);
        test(28, "10 options, numbered from 0", RunEdgesTest::p28TheMostOptions);
        test(28, "one option leaves the choices as they are", RunEdgesTest::p28OneOption);
        test(28, "a RAISE cannot go on normally", RunEdgesTest::p28RaiseCannotGoOn);
        test(28, "x / m, rounded down", RunEdgesTest::p28RoundedDown);
        test(28, "the greatest choices", RunEdgesTest::p28TheMostChoices);
        test(28, "a run begins at instruction 0", RunEdgesTest::p28EachRunBeginsAtZero);
        test(29, "0 if there was none", RunEdgesTest::p29NoRun);
        test(29, "0 if none was executed", RunEdgesTest::p29NothingExecuted);
        test(29, "at most 500", RunEdgesTest::p29TheMost);
        test(29, "of the latest run", RunEdgesTest::p29TheLatest);
        test(30, "0 if there was none", RunEdgesTest::p30NoRun);
        test(30, "at most 500", RunEdgesTest::p30TheMost);
        test(30, "errors that entries have taken, not the one that left",
                RunEdgesTest::p30LeavingIsNotTaken);
        test(30, "taken, though the target is not there", RunEdgesTest::p30TargetNotThere);
        test(30, "of the latest run", RunEdgesTest::p30TheLatest);
        test(31, "-1 if there was no run", RunEdgesTest::p31NoRun);
        test(31, "-1 if none did", RunEdgesTest::p31NoneDid);
        test(31, "the kind 0, and the kind 7", RunEdgesTest::p31TheFirstAndTheLastKind);
        test(31, "of the latest run", RunEdgesTest::p31TheLatest);
        test(31, "the error that left the code", RunEdgesTest::p31TheOneThatLeft);
        test(32, "0 if there was no run", RunEdgesTest::p32NoRun);
        test(32, "7 at first", RunEdgesTest::p32NothingExecuted);
        test(32, "the form, then 10 and the kind of the error", RunEdgesTest::p32FormsAndKinds);
        test(32, "wraps around as a 64-bit integer", RunEdgesTest::p32WrapsAround);
        test(32, "of the latest run", RunEdgesTest::p32TheLatest);
        test(33, "starts with 137: a new object", RunEdgesTest::p33OfANewObject);
        test(33, "-1 for no target", RunEdgesTest::p33NoTarget);
        test(33, "the parent of each but the kind 0", RunEdgesTest::p33ParentsButOfKindZero);
        test(33, "what executed, taken and escaped tell", RunEdgesTest::p33WhatTheRunTells);
        test(33, "wraps around as a 64-bit integer, all full", RunEdgesTest::p33WrapsAround);
        test(33, "what was removed does not count", RunEdgesTest::p33NothingRemovedCounts);
        test(33, "it changes nothing", RunEdgesTest::p33ChangesNothing);
        finish();
    }
}
