/** Promises 13 to 17: one test for each sentence that names a boundary case. */
public final class TableEdgesTest extends Due {
    private TableEdgesTest() {
    }

    private static void p13NoSuchKind() {
        HandlerOptimizer x = new HandlerOptimizer();
        for (int count = 1; count <= 8; count++) {
            for (int no : row(-1, count, 8, 31, 32, MIN, MAX)) {
                dueThrow("addEntry of kind " + no, x, INDEX, o -> o.addEntry(0, 1, no, 0));
            }
            due("addEntry", x.addEntry(0, 1, count - 1, 0), count - 1);
            if (count < 8) {
                x.addKind(0);
            }
        }
    }

    private static void p13FromNegative() {
        HandlerOptimizer x = new HandlerOptimizer();
        for (int no : row(-1, -2, -48, MIN)) {
            dueThrow("addEntry from " + no, x, ARGUMENT, o -> o.addEntry(no, 5, 0, 0));
        }
        due("addEntry from 0", x.addEntry(0, 5, 0, 0), 0);
        dueTable(x, row(0, 5, 0, 0));
    }

    private static void p13ToGreaterThan48() {
        HandlerOptimizer x = new HandlerOptimizer();
        for (int no : row(49, 50, MAX)) {
            dueThrow("addEntry to " + no, x, ARGUMENT, o -> o.addEntry(5, no, 0, 0));
            dueThrow("addEntry from 48 to " + no, x, ARGUMENT, o -> o.addEntry(48, no, 0, 0));
        }
        due("addEntry to 48", x.addEntry(5, 48, 0, 0), 0);
        dueTable(x, row(5, 48, 0, 0));
    }

    private static void p13FromNotLessThanTo() {
        HandlerOptimizer x = new HandlerOptimizer();
        int[][] ranges = {{0, 0}, {1, 1}, {48, 48}, {1, 0}, {5, 4}, {48, 0}, {48, 1}, {MAX, MIN},
            {0, -1}, {0, MIN}, {MAX, 48}, {49, 48}};
        for (int[] range : ranges) {
            dueThrow("addEntry " + range[0] + " to " + range[1], x, ARGUMENT,
                    o -> o.addEntry(range[0], range[1], 0, 0));
        }
        due("addEntry 4 to 5", x.addEntry(4, 5, 0, 0), 0);
    }

    private static void p13SmallestAndGreatestRange() {
        HandlerOptimizer x = new HandlerOptimizer();
        due("addEntry", x.addEntry(0, 1, 0, 0), 0);
        due("addEntry", x.addEntry(47, 48, 0, 47), 1);
        due("addEntry", x.addEntry(0, 48, 0, 1), 2);
        dueTable(x, row(0, 1, 0, 0), row(47, 48, 0, 47), row(0, 48, 0, 1));
    }

    private static void p13TargetTooSmall() {
        HandlerOptimizer x = new HandlerOptimizer();
        for (int no : row(-1, -2, MIN)) {
            dueThrow("addEntry with target " + no, x, ARGUMENT, o -> o.addEntry(0, 1, 0, no));
        }
        due("addEntry", x.addEntry(0, 1, 0, 0), 0);
    }

    private static void p13TargetTooLarge() {
        HandlerOptimizer x = new HandlerOptimizer();
        for (int no : row(48, 49, MAX)) {
            dueThrow("addEntry with target " + no, x, ARGUMENT, o -> o.addEntry(0, 1, 0, no));
        }
        due("addEntry", x.addEntry(0, 1, 0, 47), 0);
    }

    private static void p13FullTable() {
        HandlerOptimizer x = withFullTable();
        dueThrow("the 25th", x, STATE, o -> o.addEntry(0, 1, 0, 0));
        dueThrow("the 25th", x, STATE, o -> o.addEntry(0, 48, 0, 47));
        due("entryCount", x.entryCount(), 24);
    }

    private static void p13IndexIsNamedFirst() {
        HandlerOptimizer x = new HandlerOptimizer();
        dueThrow("no kind and from -1", x, INDEX, o -> o.addEntry(-1, 1, 1, 0));
        dueThrow("no kind and to 49", x, INDEX, o -> o.addEntry(0, 49, -1, 0));
        dueThrow("no kind and no range", x, INDEX, o -> o.addEntry(3, 3, 1, 0));
        dueThrow("no kind and target 48", x, INDEX, o -> o.addEntry(0, 1, 1, 48));
        HandlerOptimizer full = withFullTable();
        dueThrow("no kind, full", full, INDEX, o -> o.addEntry(0, 1, 1, 0));
        dueThrow("no kind, no range, full", full, INDEX, o -> o.addEntry(1, 1, 1, 48));
    }

    private static void p13ArgumentIsNamedSecond() {
        HandlerOptimizer x = withFullTable();
        dueThrow("from -1, full", x, ARGUMENT, o -> o.addEntry(-1, 1, 0, 0));
        dueThrow("to 49, full", x, ARGUMENT, o -> o.addEntry(0, 49, 0, 0));
        dueThrow("no range, full", x, ARGUMENT, o -> o.addEntry(3, 3, 0, 0));
        dueThrow("target -1, full", x, ARGUMENT, o -> o.addEntry(0, 1, 0, -1));
        dueThrow("target 48, full", x, ARGUMENT, o -> o.addEntry(0, 1, 0, 48));
    }

    private static void p13RefusedChangesNothing() {
        HandlerOptimizer x = new HandlerOptimizer();
        dueThrow("no kind", x, INDEX, o -> o.addEntry(0, 1, 1, 0));
        dueThrow("no range", x, ARGUMENT, o -> o.addEntry(1, 1, 0, 0));
        dueThrow("target 48", x, ARGUMENT, o -> o.addEntry(0, 1, 0, 48));
        due("entryCount", x.entryCount(), 0);
        due("addEntry", x.addEntry(2, 3, 0, 4), 0);
        dueDigest(x, 1, 0, 1, 2, 3, 0, 4, 0, 0, -1);
    }

    private static void p14NoSuchEntry() {
        HandlerOptimizer x = new HandlerOptimizer();
        dueThrow("removeEntry(0) of none", x, INDEX, o -> o.removeEntry(0));
        x.addEntry(0, 1, 0, 0);
        for (int no : row(-1, 1, 23, 24, MIN, MAX)) {
            dueThrow("removeEntry(" + no + ") of one", x, INDEX, o -> o.removeEntry(no));
        }
        HandlerOptimizer full = withFullTable();
        dueThrow("removeEntry(24) of 24", full, INDEX, o -> o.removeEntry(24));
    }

    private static void p14TheOnlyOne() {
        HandlerOptimizer x = new HandlerOptimizer();
        x.addEntry(0, 1, 0, 0);
        due("removeEntry(0)", x.removeEntry(0), 0);
        due("entryCount", x.entryCount(), 0);
        dueThrow("entry(0, 0)", x, INDEX, o -> o.entry(0, 0));
        dueThrow("removeEntry(0)", x, INDEX, o -> o.removeEntry(0));
    }

    private static void p14OfAFullTable() {
        HandlerOptimizer last = withFullTable();
        due("removeEntry(23)", last.removeEntry(23), 23);
        dueEntry(last, 22, 22, 23, 0, 24);
        dueThrow("entry(23, 0)", last, INDEX, o -> o.entry(23, 0));
        HandlerOptimizer first = withFullTable();
        due("removeEntry(0)", first.removeEntry(0), 23);
        dueEntry(first, 0, 1, 2, 0, 3);
        dueEntry(first, 22, 23, 24, 0, 25);
        due("room for one", first.addEntry(7, 9, 0, 11), 23);
        dueThrow("room for no other", first, STATE, o -> o.addEntry(7, 9, 0, 11));
    }

    private static void p14OthersStayInOrder() {
        HandlerOptimizer x = new HandlerOptimizer();
        x.addEntry(0, 1, 0, 10);
        x.addEntry(1, 3, 0, 11);
        x.addEntry(2, 6, 0, 12);
        due("removeEntry(1)", x.removeEntry(1), 2);
        dueTable(x, row(0, 1, 0, 10), row(2, 6, 0, 12));
    }

    private static void p14RefusedChangesNothing() {
        HandlerOptimizer x = withFullTable();
        dueThrow("removeEntry(-1)", x, INDEX, o -> o.removeEntry(-1));
        dueThrow("removeEntry(24)", x, INDEX, o -> o.removeEntry(24));
        due("entryCount", x.entryCount(), 24);
    }

    private static void p15FromNoneTo24() {
        HandlerOptimizer x = new HandlerOptimizer();
        for (int e = 0; e < 24; e++) {
            due("entryCount", x.entryCount(), e);
            x.addEntry(e, 48, 0, e);
        }
        due("the most", x.entryCount(), 24);
    }

    private static void p15RefusedDoNotCount() {
        HandlerOptimizer x = new HandlerOptimizer();
        dueThrow("no kind", x, INDEX, o -> o.addEntry(0, 1, 1, 0));
        dueThrow("no range", x, ARGUMENT, o -> o.addEntry(1, 1, 0, 0));
        dueThrow("no entry", x, INDEX, o -> o.removeEntry(0));
        due("entryCount", x.entryCount(), 0);
        HandlerOptimizer full = withFullTable();
        dueThrow("the 25th", full, STATE, o -> o.addEntry(0, 1, 0, 0));
        due("entryCount", full.entryCount(), 24);
    }

    private static void p16NoSuchEntry() {
        HandlerOptimizer x = new HandlerOptimizer();
        dueThrow("entry(0, 0) of none", x, INDEX, o -> o.entry(0, 0));
        x.addEntry(0, 1, 0, 0);
        for (int no : row(-1, 1, 23, 24, MIN, MAX)) {
            for (int what = 0; what < 4; what++) {
                int asked = what;
                dueThrow("entry(" + no + ", " + what + ")", x, INDEX, o -> o.entry(no, asked));
            }
        }
    }

    private static void p16TheLastOfAFullTable() {
        HandlerOptimizer x = withFullTable();
        dueEntry(x, 23, 23, 24, 0, 25);
        dueThrow("entry(24, 0)", x, INDEX, o -> o.entry(24, 0));
    }

    private static void p16WhatTooSmall() {
        HandlerOptimizer x = new HandlerOptimizer();
        x.addEntry(3, 5, 0, 7);
        for (int no : row(-1, -2, MIN)) {
            dueThrow("entry(0, " + no + ")", x, INDEX, o -> o.entry(0, no));
        }
        due("entry(0, 0)", x.entry(0, 0), 3);
    }

    private static void p16WhatTooLarge() {
        HandlerOptimizer x = new HandlerOptimizer();
        x.addEntry(3, 5, 0, 7);
        for (int no : row(4, 5, MAX)) {
            dueThrow("entry(0, " + no + ")", x, INDEX, o -> o.entry(0, no));
        }
        due("entry(0, 3)", x.entry(0, 3), 7);
    }

    private static void p16BothWrong() {
        HandlerOptimizer x = new HandlerOptimizer();
        x.addEntry(3, 5, 0, 7);
        dueThrow("entry(1, 4)", x, INDEX, o -> o.entry(1, 4));
        dueThrow("entry(-1, -1)", x, INDEX, o -> o.entry(-1, -1));
    }

    /** The entry's range holds numbers where no instruction is. */
    private static void p17NoSuchInstruction() {
        HandlerOptimizer x = new HandlerOptimizer();
        x.addEntry(0, 48, 0, 0);
        dueThrow("taker(0, 0) of no code", x, INDEX, o -> o.taker(0, 0));
        x.end();
        due("taker(0, 0)", x.taker(0, 0), 0);
        for (int no : row(-1, 1, 47, 48, MIN, MAX)) {
            dueThrow("taker(" + no + ", 0)", x, INDEX, o -> o.taker(no, 0));
        }
        HandlerOptimizer full = withFullCode();
        dueThrow("taker(48, 0) of full code", full, INDEX, o -> o.taker(48, 0));
    }

    private static void p17NoSuchKind() {
        HandlerOptimizer x = withTree();
        x.end();
        x.addEntry(0, 48, 0, 0);
        for (int no : row(-1, 6, 7, 8, 31, 32, MIN, MAX)) {
            dueThrow("taker(0, " + no + ")", x, INDEX, o -> o.taker(0, no));
            dueThrow("taker(1, " + no + ")", x, INDEX, o -> o.taker(1, no));
        }
    }

    private static void p17NoneInAnEmptyTable() {
        HandlerOptimizer x = withTree();
        x.step(63);
        for (int kind = 0; kind < 6; kind++) {
            due("taker(0, " + kind + ")", x.taker(0, kind), -1);
        }
    }

    private static void p17TheEndIsNotIncluded() {
        HandlerOptimizer x = withFullCode();
        x.addEntry(2, 5, 0, 0);
        int[] takers = {-1, -1, 0, 0, 0, -1, -1};
        for (int i = 0; i < takers.length; i++) {
            due("taker(" + i + ", 0)", x.taker(i, 0), takers[i]);
        }
    }

    private static void p17TheFirstAndTheLastNumber() {
        HandlerOptimizer x = withFullCode();
        x.addEntry(0, 1, 0, 0);
        x.addEntry(47, 48, 0, 0);
        due("taker(0, 0)", x.taker(0, 0), 0);
        due("taker(1, 0)", x.taker(1, 0), -1);
        due("taker(46, 0)", x.taker(46, 0), -1);
        due("taker(47, 0)", x.taker(47, 0), 1);
        HandlerOptimizer all = withFullCode();
        all.addEntry(0, 48, 0, 0);
        due("taker(0, 0)", all.taker(0, 0), 0);
        due("taker(47, 0)", all.taker(47, 0), 0);
    }

    private static void p17TheFirstOfSeveral() {
        HandlerOptimizer x = withTree();
        x.end();
        for (int e = 0; e < 23; e++) {
            x.addEntry(1, 2, 0, 0);
        }
        x.addEntry(0, 1, 0, 0);
        due("the last of 24", x.taker(0, 5), 23);
        x.removeEntry(4);
        x.removeEntry(4);
        x.addEntry(0, 48, 5, 0);
        x.addEntry(0, 48, 0, 0);
        due("ahead of one of its own kind", x.taker(0, 5), 21);
        x.removeEntry(21);
        due("the next one", x.taker(0, 5), 21);
        due("of another kind", x.taker(0, 3), 22);
    }

    private static void p17KindsAtAndBelowTheEntrys() {
        HandlerOptimizer x = withTree();
        x.end();
        x.addEntry(0, 1, 3, 0);
        int[] takers = {-1, -1, -1, 0, -1, 0};
        for (int kind = 0; kind < 6; kind++) {
            due("taker(0, " + kind + ")", x.taker(0, kind), takers[kind]);
        }
    }

    private static void p17NeedNotBeThrown() {
        HandlerOptimizer x = withTree();
        x.step(0);
        x.jump(0);
        x.end();
        x.raise(1);
        x.addEntry(0, 4, 0, 0);
        for (int i = 0; i < 4; i++) {
            due("taker(" + i + ", 2)", x.taker(i, 2), 0);
        }
    }

    private static void p17NeedNotBeReached() {
        HandlerOptimizer x = new HandlerOptimizer();
        x.end();
        x.step(1);
        x.addEntry(1, 2, 0, 0);
        due("taker(1, 0)", x.taker(1, 0), 0);
    }

    public static void main(String[] args) {
        test(13, "throws if there is no such kind", TableEdgesTest::p13NoSuchKind);
        test(13, "throws if from is negative", TableEdgesTest::p13FromNegative);
        test(13, "throws if to is greater than 48", TableEdgesTest::p13ToGreaterThan48);
        test(13, "throws if from is not less than to", TableEdgesTest::p13FromNotLessThanTo);
        test(13, "a range goes from 0 to 48", TableEdgesTest::p13SmallestAndGreatestRange);
        test(13, "throws if target is less than 0", TableEdgesTest::p13TargetTooSmall);
        test(13, "throws if target is more than 47", TableEdgesTest::p13TargetTooLarge);
        test(13, "throws if there are 24 entries", TableEdgesTest::p13FullTable);
        test(13, "the exception that is named first", TableEdgesTest::p13IndexIsNamedFirst);
        test(13, "the exception that is named second, ahead of the third",
                TableEdgesTest::p13ArgumentIsNamedSecond);
        test(13, "a refused call changes nothing", TableEdgesTest::p13RefusedChangesNothing);
        test(14, "throws if there is no such entry", TableEdgesTest::p14NoSuchEntry);
        test(14, "none is left behind the only one", TableEdgesTest::p14TheOnlyOne);
        test(14, "a full table has room again", TableEdgesTest::p14OfAFullTable);
        test(14, "entries are numbered in their order", TableEdgesTest::p14OthersStayInOrder);
        test(14, "a refused call changes nothing", TableEdgesTest::p14RefusedChangesNothing);
        test(15, "none at first, at most 24", TableEdgesTest::p15FromNoneTo24);
        test(15, "refused ones do not count", TableEdgesTest::p15RefusedDoNotCount);
        test(16, "throws if there is no such entry", TableEdgesTest::p16NoSuchEntry);
        test(16, "the last of 24 is there", TableEdgesTest::p16TheLastOfAFullTable);
        test(16, "throws if what is less than 0", TableEdgesTest::p16WhatTooSmall);
        test(16, "throws if what is more than 3", TableEdgesTest::p16WhatTooLarge);
        test(16, "throws if both are wrong", TableEdgesTest::p16BothWrong);
        test(17, "throws if there is no such instruction", TableEdgesTest::p17NoSuchInstruction);
        test(17, "throws if there is no such kind", TableEdgesTest::p17NoSuchKind);
        test(17, "-1 if there is none: an empty table", TableEdgesTest::p17NoneInAnEmptyTable);
        test(17, "the end of a range is not included", TableEdgesTest::p17TheEndIsNotIncluded);
        test(17, "a range contains 0, and 47", TableEdgesTest::p17TheFirstAndTheLastNumber);
        test(17, "the first entry that would take it", TableEdgesTest::p17TheFirstOfSeveral);
        test(17, "the entry's kind, or one that this is below",
                TableEdgesTest::p17KindsAtAndBelowTheEntrys);
        test(17, "it need not be one that it can throw", TableEdgesTest::p17NeedNotBeThrown);
        test(17, "an instruction that is not reached, too", TableEdgesTest::p17NeedNotBeReached);
        finish();
    }
}
