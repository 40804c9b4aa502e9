/** Promises 23 to 27: one test for each sentence that names a boundary case. */
public final class SmallerEdgesTest extends Due {
    private SmallerEdgesTest() {
    }

    private static void p23EmptyTable() {
        HandlerOptimizer x = new HandlerOptimizer();
        due("drop without code", x.drop(), 0);
        x.step(1);
        due("drop", x.drop(), 0);
        due("entryCount", x.entryCount(), 0);
    }

    private static void p23AllOfAFullTable() {
        HandlerOptimizer x = withFullTable();
        due("drop", x.drop(), 24);
        due("entryCount", x.entryCount(), 0);
        due("room again", x.addEntry(0, 1, 0, 0), 0);
    }

    private static void p23NoneOfAFullTable() {
        HandlerOptimizer x = new HandlerOptimizer();
        for (int i = 0; i < 24; i++) {
            x.step(1);
            x.addEntry(i, i + 1, 0, i);
        }
        due("drop", x.drop(), 0);
        due("entryCount", x.entryCount(), 24);
        dueEntry(x, 23, 23, 24, 0, 23);
    }

    private static void p23UsedOnesStayAsTheyAre() {
        HandlerOptimizer x = new HandlerOptimizer();
        withSteps(x, 1, 0, 1);
        x.addEntry(1, 2, 0, 9);
        x.addEntry(0, 2, 0, 40);
        x.addEntry(0, 2, 0, 41);
        x.addEntry(2, 48, 0, 42);
        x.addEntry(0, 48, 0, 43);
        due("drop", x.drop(), 3);
        dueTable(x, row(0, 2, 0, 40), row(2, 48, 0, 42));
        due("drop", x.drop(), 0);
    }

    /** The entry of 1 is used only because 1 is reached by the one that is used: both stay. */
    private static void p23WhatIsReachedByErrors() {
        HandlerOptimizer x = new HandlerOptimizer();
        x.raise(0);
        x.raise(0);
        x.raise(0);
        x.addEntry(1, 2, 0, 40);
        x.addEntry(2, 3, 0, 0);
        x.addEntry(0, 1, 0, 1);
        due("drop", x.drop(), 1);
        dueTable(x, row(1, 2, 0, 40), row(0, 1, 0, 1));
    }

    private static void p24EmptyTable() {
        HandlerOptimizer x = new HandlerOptimizer();
        due("shrink without code", x.shrink(), 0);
        x.step(1);
        due("shrink", x.shrink(), 0);
    }

    private static void p24UnusedStay() {
        HandlerOptimizer x = new HandlerOptimizer();
        x.addEntry(0, 48, 0, 0);
        due("shrink without code", x.shrink(), 0);
        x.end();
        x.raise(0);
        x.addEntry(1, 48, 0, 0);
        due("shrink", x.shrink(), 0);
        dueTable(x, row(0, 48, 0, 0), row(1, 48, 0, 0));
    }

    private static void p24BeginAndEnd() {
        HandlerOptimizer x = new HandlerOptimizer();
        withSteps(x, 0, 1, 0, 1, 0);
        x.addEntry(0, 48, 0, 9);
        due("shrink", x.shrink(), 1);
        dueTable(x, row(1, 4, 0, 9));
    }

    private static void p24BeginAlone() {
        HandlerOptimizer x = new HandlerOptimizer();
        withSteps(x, 0, 1);
        x.addEntry(0, 2, 0, 9);
        due("shrink", x.shrink(), 1);
        dueTable(x, row(1, 2, 0, 9));
    }

    private static void p24EndAlone() {
        HandlerOptimizer x = new HandlerOptimizer();
        withSteps(x, 1, 0);
        x.addEntry(0, 2, 0, 9);
        due("shrink", x.shrink(), 1);
        dueTable(x, row(0, 1, 0, 9));
    }

    private static void p24AnotherRangeThanBefore() {
        HandlerOptimizer x = new HandlerOptimizer();
        withSteps(x, 1, 1, 1, 1);
        x.addEntry(0, 2, 0, 9);
        x.addEntry(2, 48, 0, 9);
        due("shrink", x.shrink(), 1);
        dueTable(x, row(0, 2, 0, 9), row(2, 4, 0, 9));
        due("shrink again", x.shrink(), 0);
    }

    private static void p24AllOf48() {
        HandlerOptimizer x = withFullCode();
        x.addEntry(0, 48, 0, 9);
        due("shrink", x.shrink(), 0);
        dueTable(x, row(0, 48, 0, 9));
        x.addEntry(46, 48, 0, 9);
        due("the second is not used", x.shrink(), 0);
    }

    private static void p24TheLastOf48() {
        HandlerOptimizer x = new HandlerOptimizer();
        for (int i = 0; i < 47; i++) {
            x.step(0);
        }
        x.step(1);
        x.addEntry(0, 48, 0, 9);
        due("shrink", x.shrink(), 1);
        dueTable(x, row(47, 48, 0, 9));
    }

    private static void p24ReachedAlone() {
        HandlerOptimizer x = new HandlerOptimizer();
        x.jump(2);
        x.raise(0);
        x.raise(0);
        x.raise(0);
        x.addEntry(0, 4, 0, 2);
        due("shrink", x.shrink(), 1);
        dueTable(x, row(2, 3, 0, 2));
    }

    private static void p24WhatItTakesAlone() {
        HandlerOptimizer x = withKinds(0);
        withSteps(x, 2, 3, 2);
        x.addEntry(0, 3, 1, 9);
        x.addEntry(0, 3, 0, 9);
        due("shrink", x.shrink(), 1);
        dueTable(x, row(0, 3, 1, 9), row(1, 2, 0, 9));
    }

    private static void p24ThatThisCanThrow() {
        HandlerOptimizer x = withKinds(0, 0);
        withSteps(x, 4, 2, 1);
        x.addEntry(0, 3, 1, 9);
        due("shrink", x.shrink(), 1);
        dueTable(x, row(1, 2, 1, 9));
    }

    private static void p24AllOfAFullTable() {
        HandlerOptimizer x = new HandlerOptimizer();
        for (int i = 0; i < 24; i++) {
            x.step(1);
            x.addEntry(i, 48, 0, 40);
        }
        x.removeEntry(0);
        x.addEntry(0, 48, 0, 40);
        due("shrink", x.shrink(), 2);
        dueEntry(x, 0, 1, 24, 0, 40);
        dueEntry(x, 1, 2, 48, 0, 40);
        dueEntry(x, 23, 0, 1, 0, 40);
        HandlerOptimizer y = new HandlerOptimizer();
        for (int i = 0; i < 24; i++) {
            y.step(0);
            y.step(1);
            y.addEntry(2 * i, 2 * i + 2, 0, 47);
        }
        due("shrink of 24", y.shrink(), 24);
        dueEntry(y, 23, 47, 48, 0, 47);
    }

    private static void p25EmptyTable() {
        HandlerOptimizer x = new HandlerOptimizer();
        due("join without code", x.join(), 0);
        x.step(1);
        due("join", x.join(), 0);
    }

    private static void p25OneEntry() {
        HandlerOptimizer x = new HandlerOptimizer();
        x.step(1);
        x.addEntry(0, 48, 0, 0);
        due("join", x.join(), 0);
        dueTable(x, row(0, 48, 0, 0));
    }

    private static void p25NoCode() {
        HandlerOptimizer x = withTree();
        for (int e = 0; e < 24; e++) {
            x.addEntry(e, e + 2, 3 + e % 2, 7);
        }
        due("join", x.join(), 23);
        dueTable(x, row(0, 25, 1, 7));
    }

    private static void p25OtherTargets() {
        HandlerOptimizer x = withFullTable();
        due("join", x.join(), 0);
        due("entryCount", x.entryCount(), 24);
        HandlerOptimizer y = new HandlerOptimizer();
        y.addEntry(0, 1, 0, 0);
        y.addEntry(0, 1, 0, 47);
        due("join", y.join(), 0);
    }

    private static void p25FromTheSmallerToTheGreater() {
        HandlerOptimizer x = new HandlerOptimizer();
        x.addEntry(5, 7, 0, 9);
        x.addEntry(0, 48, 0, 9);
        due("one inside the other", x.join(), 1);
        dueTable(x, row(0, 48, 0, 9));
        HandlerOptimizer y = new HandlerOptimizer();
        y.addEntry(47, 48, 0, 9);
        y.addEntry(0, 1, 0, 9);
        due("far apart", y.join(), 1);
        dueTable(y, row(0, 48, 0, 9));
        HandlerOptimizer z = new HandlerOptimizer();
        z.addEntry(3, 9, 0, 9);
        z.addEntry(2, 8, 0, 9);
        due("crossing", z.join(), 1);
        dueTable(z, row(2, 9, 0, 9));
    }

    private static void p25TheLowestKind() {
        HandlerOptimizer x = withTree();
        x.addEntry(0, 1, 5, 9);
        x.addEntry(0, 1, 4, 9);
        due("join", x.join(), 1);
        dueTable(x, row(0, 1, 1, 9));
        HandlerOptimizer y = withTree();
        y.addEntry(0, 1, 5, 9);
        y.addEntry(0, 1, 3, 9);
        due("one above the other", y.join(), 1);
        dueTable(y, row(0, 1, 3, 9));
        HandlerOptimizer z = withTree();
        z.addEntry(0, 1, 5, 9);
        z.addEntry(0, 1, 2, 9);
        due("kind 0 alone", z.join(), 1);
        dueTable(z, row(0, 1, 0, 9));
    }

    /** Both places would do: what stands between takes nothing of it. */
    private static void p25InPlaceOfA() {
        HandlerOptimizer x = new HandlerOptimizer();
        withSteps(x, 1, 1, 1);
        x.addEntry(0, 1, 0, 9);
        x.addEntry(2, 3, 0, 8);
        x.addEntry(1, 2, 0, 9);
        due("join", x.join(), 1);
        dueTable(x, row(0, 2, 0, 9), row(2, 3, 0, 8));
    }

    private static void p25OtherwiseInPlaceOfB() {
        HandlerOptimizer x = new HandlerOptimizer();
        withSteps(x, 1, 1, 1);
        x.addEntry(0, 1, 0, 9);
        x.addEntry(1, 2, 0, 8);
        x.addEntry(2, 3, 0, 9);
        due("join", x.join(), 1);
        dueTable(x, row(1, 2, 0, 8), row(0, 3, 0, 9));
    }

    /** Ahead it would take what goes to 8 from 1; behind it would lose what goes to 9 from 0. */
    private static void p25InNeitherPlace() {
        HandlerOptimizer x = new HandlerOptimizer();
        withSteps(x, 1, 1, 1);
        x.addEntry(0, 1, 0, 9);
        x.addEntry(0, 2, 0, 8);
        x.addEntry(2, 3, 0, 9);
        due("join", x.join(), 0);
        dueTable(x, row(0, 1, 0, 9), row(0, 2, 0, 8), row(2, 3, 0, 9));
    }

    private static void p25WhatLeftTheCodeLeaves() {
        HandlerOptimizer x = new HandlerOptimizer();
        withSteps(x, 1, 1, 1);
        x.addEntry(0, 1, 0, 0);
        x.addEntry(2, 3, 0, 0);
        due("the one between leaves", x.join(), 0);
        HandlerOptimizer y = withKinds(0, 0);
        withSteps(y, 1 | 2 | 4);
        y.addEntry(0, 1, 1, 0);
        y.addEntry(0, 1, 2, 0);
        due("the kind above leaves", y.join(), 0);
        dueTable(y, row(0, 1, 1, 0), row(0, 1, 2, 0));
    }

    private static void p25ThatAReachedOneCanThrow() {
        HandlerOptimizer x = new HandlerOptimizer();
        x.step(1);
        x.jump(3);
        x.raise(0);
        x.step(1);
        x.addEntry(0, 1, 0, 9);
        x.addEntry(3, 4, 0, 9);
        due("the one between is not reached", x.join(), 1);
        dueTable(x, row(0, 4, 0, 9));
        HandlerOptimizer y = withKinds(0);
        withSteps(y, 2, 1, 2);
        y.addEntry(0, 1, 1, 9);
        y.addEntry(2, 3, 1, 9);
        due("the one between throws another kind", y.join(), 1);
        dueTable(y, row(0, 3, 1, 9));
    }

    /** By another entry than before, but to the same target. */
    private static void p25SameTargetByAnotherEntry() {
        HandlerOptimizer x = new HandlerOptimizer();
        withSteps(x, 1, 1, 1, 1);
        x.addEntry(0, 1, 0, 9);
        x.addEntry(2, 3, 0, 8);
        x.addEntry(1, 2, 0, 9);
        x.addEntry(3, 4, 0, 7);
        x.addEntry(0, 2, 0, 9);
        due("join", x.join(), 2);
        dueTable(x, row(0, 2, 0, 9), row(2, 3, 0, 8), row(3, 4, 0, 7));
    }

    /** Both 0 with 1 and 0 with 2 can be joined; once one is done, the other can not. */
    private static void p25AscendingOrderOfB() {
        HandlerOptimizer x = withKinds(0, 0);
        withSteps(x, 2, 4, 2 | 4);
        x.addEntry(0, 1, 1, 9);
        x.addEntry(1, 2, 2, 9);
        x.addEntry(2, 3, 1, 9);
        due("join", x.join(), 1);
        dueTable(x, row(0, 2, 0, 9), row(2, 3, 1, 9));
    }

    /** 0 with 1 can not be joined; 0 with 2 can, and 1 with 2 could. */
    private static void p25AscendingOrderOfA() {
        HandlerOptimizer x = withKinds(0, 0);
        withSteps(x, 1 | 2, 4, 2);
        x.addEntry(0, 1, 1, 9);
        x.addEntry(1, 2, 2, 9);
        x.addEntry(2, 3, 1, 9);
        due("join", x.join(), 1);
        dueTable(x, row(0, 3, 1, 9), row(1, 2, 2, 9));
    }

    /** Both 0 with 3 and 1 with 2 can be joined; once one is done, the other can not. */
    private static void p25OrderOfAAheadOfThatOfB() {
        HandlerOptimizer x = new HandlerOptimizer();
        withSteps(x, 1, 1, 0);
        x.addEntry(1, 2, 0, 21);
        x.addEntry(2, 3, 0, 20);
        x.addEntry(0, 1, 0, 20);
        x.addEntry(0, 1, 0, 21);
        due("join", x.join(), 1);
        dueTable(x, row(2, 3, 0, 20), row(0, 1, 0, 20), row(0, 2, 0, 21));
    }

    /** 0 with 2 can be joined only when 1 and 3 have been, which are a later pair. */
    private static void p25BeginsAnew() {
        HandlerOptimizer x = new HandlerOptimizer();
        withSteps(x, 1, 1, 1, 1);
        x.addEntry(0, 1, 0, 20);
        x.addEntry(1, 2, 0, 21);
        x.addEntry(3, 4, 0, 20);
        x.addEntry(2, 3, 0, 21);
        due("join", x.join(), 2);
        dueTable(x, row(1, 3, 0, 21), row(0, 4, 0, 20));
    }

    /** 1 with 3 is done; then 0 with 2 comes first, and not one of the later pairs. */
    private static void p25BeginsAnewWithTheFirst() {
        HandlerOptimizer x = new HandlerOptimizer();
        withSteps(x, 0, 1, 1, 1);
        x.addEntry(0, 1, 0, 21);
        x.addEntry(2, 3, 0, 20);
        x.addEntry(3, 4, 0, 21);
        x.addEntry(0, 3, 0, 20);
        x.addEntry(2, 4, 0, 20);
        due("join", x.join(), 2);
        dueTable(x, row(0, 3, 0, 20), row(0, 4, 0, 21), row(2, 4, 0, 20));
    }

    private static void p25AllOfAFullTable() {
        HandlerOptimizer x = new HandlerOptimizer();
        for (int i = 0; i < 24; i++) {
            x.step(1);
            x.step(0);
            x.addEntry(46 - 2 * i, 48 - 2 * i, 0, 47);
        }
        due("join", x.join(), 23);
        dueTable(x, row(0, 48, 0, 47));
        due("join again", x.join(), 0);
    }

    private static void p26EmptyTable() {
        HandlerOptimizer x = new HandlerOptimizer();
        due("improve without code", x.improve(), 0);
        x.step(1);
        due("improve", x.improve(), 0);
    }

    private static void p26NothingToDo() {
        HandlerOptimizer x = new HandlerOptimizer();
        for (int i = 0; i < 24; i++) {
            x.step(1);
            x.addEntry(i, i + 1, 0, i);
        }
        due("improve", x.improve(), 0);
        due("entryCount", x.entryCount(), 24);
    }

    private static void p26AFullTableInOneRound() {
        HandlerOptimizer x = new HandlerOptimizer();
        for (int i = 0; i < 24; i++) {
            x.step(1);
            x.addEntry(i, 48, 0, 40);
        }
        due("improve", x.improve(), 1);
        dueTable(x, row(0, 24, 0, 40));
        HandlerOptimizer y = withFullTable();
        due("improve without code", y.improve(), 1);
        due("entryCount", y.entryCount(), 0);
    }

    private static void p26OneOfTheThreeIsAChange() {
        HandlerOptimizer drop = new HandlerOptimizer();
        drop.addEntry(0, 1, 0, 0);
        due("a drop", drop.improve(), 1);
        HandlerOptimizer shrink = new HandlerOptimizer();
        shrink.step(1);
        shrink.addEntry(0, 2, 0, 9);
        due("a shrink", shrink.improve(), 1);
        HandlerOptimizer join = new HandlerOptimizer();
        withSteps(join, 1, 1);
        join.addEntry(0, 1, 0, 9);
        join.addEntry(1, 2, 0, 9);
        due("a join", join.improve(), 1);
    }

    /** Joined ahead of being dropped, the unused one would give its kind and its range. */
    private static void p26DroppingFirst() {
        HandlerOptimizer x = withKinds(0, 0);
        withSteps(x, 2);
        x.addEntry(0, 1, 1, 9);
        x.addEntry(5, 9, 2, 9);
        due("improve", x.improve(), 1);
        dueTable(x, row(0, 1, 1, 9));
    }

    /** Joined ahead of being shrunk, the last range would hold 2, and come behind the second. */
    private static void p26ShrinkingAheadOfJoining() {
        HandlerOptimizer x = new HandlerOptimizer();
        withSteps(x, 1, 1, 1);
        x.addEntry(0, 1, 0, 9);
        x.addEntry(2, 3, 0, 8);
        x.addEntry(1, 3, 0, 9);
        due("improve", x.improve(), 1);
        dueTable(x, row(0, 2, 0, 9), row(2, 3, 0, 8));
    }

    /** What two entries become takes all that a third one took: that is dropped a round later. */
    private static void p26UntilARoundChangesNothing() {
        HandlerOptimizer x = withKinds(0);
        withSteps(x, 3, 2, 2);
        x.addEntry(0, 1, 1, 8);
        x.addEntry(2, 3, 1, 8);
        x.addEntry(1, 2, 0, 8);
        due("improve", x.improve(), 2);
        dueTable(x, row(0, 3, 1, 8));
        due("improve again", x.improve(), 0);
    }

    /** Kinds 1 and 2 below 0; an error of kind 0 leaves from 1, so nothing is joined across it. */
    private static HandlerOptimizer threeRounds() {
        HandlerOptimizer x = withSteps(withKinds(0, 0), 7, 3, 7);
        x.addEntry(0, 1, 1, 9);
        x.addEntry(0, 3, 2, 9);
        x.addEntry(0, 1, 0, 9);
        x.addEntry(1, 3, 1, 9);
        x.addEntry(2, 3, 0, 9);
        return x;
    }

    private static void dueRound(HandlerOptimizer x, int dropped, int shrunk, int joined) {
        due("drop", x.drop(), dropped);
        due("shrink", x.shrink(), shrunk);
        due("join", x.join(), joined);
    }

    /** A join makes another entry's range too great; shrunk, that can be joined, and so on. */
    private static void p26ThreeRounds() {
        HandlerOptimizer x = threeRounds();
        due("improve", x.improve(), 3);
        dueTable(x, row(0, 1, 0, 9), row(2, 3, 0, 9), row(1, 2, 1, 9));
        HandlerOptimizer y = threeRounds();
        dueRound(y, 0, 0, 1);
        dueTable(y, row(0, 1, 0, 9), row(0, 3, 2, 9), row(1, 3, 1, 9), row(2, 3, 0, 9));
        dueRound(y, 0, 1, 1);
        dueTable(y, row(0, 1, 0, 9), row(2, 3, 0, 9), row(1, 3, 1, 9));
        dueRound(y, 0, 1, 0);
        due("the same digest", y.digest(), x.digest());
        dueRound(y, 0, 0, 0);
    }

    /**
     * Instructions 0, 2, .. 22 throw all kinds, and all are taken; from those between them errors
     * leave. Each of the first twelve entries but the foremost begins at one of the former and ends
     * behind the next: it can be joined with that one's entry for kind 0 only when the one ahead of
     * it was, a round earlier, and has taken what it took at its beginning.
     */
    private static void p26TwelveRounds() {
        HandlerOptimizer x = withKinds(0, 0);
        for (int i = 0; i < 23; i++) {
            int otherKind = i / 2 % 2 == 0 ? 2 : 1;
            x.step(i % 2 == 0 ? 7 : 1 + (1 << otherKind));
        }
        x.addEntry(0, 1, 2, 40);
        for (int i = 0; i < 11; i++) {
            x.addEntry(2 * i, 2 * i + 3, i % 2 == 0 ? 1 : 2, 40);
        }
        for (int i = 0; i < 12; i++) {
            x.addEntry(2 * i, 2 * i + 1, 0, 40);
        }
        due("entryCount", x.entryCount(), 24);
        due("improve", x.improve(), 12);
        due("entryCount", x.entryCount(), 12);
        for (int e = 0; e < 12; e++) {
            dueEntry(x, e, 2 * e, 2 * e + 1, 0, 40);
        }
        due("improve again", x.improve(), 0);
    }

    private static void p27NoCode() {
        HandlerOptimizer x = new HandlerOptimizer();
        x.addEntry(0, 1, 0, 0);
        x.addEntry(47, 48, 0, 47);
        due("sweep", x.sweep(), 0);
        dueTable(x, row(0, 1, 0, 0), row(47, 48, 0, 47));
    }

    private static void p27AllReached() {
        HandlerOptimizer x = withFullCode();
        x.addEntry(0, 48, 0, 47);
        x.addEntry(0, 48, 0, 46);
        due("sweep", x.sweep(), 0);
        due("size", x.size(), 48);
        dueTable(x, row(0, 48, 0, 47), row(0, 48, 0, 46));
    }

    private static void p27AllButTheFirst() {
        HandlerOptimizer x = new HandlerOptimizer();
        for (int i = 0; i < 48; i++) {
            x.end();
        }
        due("sweep", x.sweep(), 47);
        due("size", x.size(), 1);
        dueInstruction(x, 0, 3, 0, -1);
        due("room again", x.jump(0), 1);
        due("sweep again", x.sweep(), 1);
    }

    private static void p27TheLastOf48Stays() {
        HandlerOptimizer x = new HandlerOptimizer();
        x.jump(47);
        for (int i = 1; i < 47; i++) {
            x.step(1);
        }
        x.raise(0);
        x.addEntry(46, 48, 0, 47);
        due("sweep", x.sweep(), 46);
        due("size", x.size(), 2);
        dueInstruction(x, 0, 1, 0, 1);
        dueInstruction(x, 1, 4, 1, -1);
        dueTable(x, row(1, 2, 0, 1));
    }

    /** 1 and 2 are removed: what is ahead of a number does not contain the number itself. */
    private static void p27AheadOfANumber() {
        HandlerOptimizer x = new HandlerOptimizer();
        x.jump(3);
        x.end();
        x.end();
        x.branch(0, 0);
        for (int target = 0; target < 5; target++) {
            x.addEntry(0, 1, 0, target);
        }
        due("sweep", x.sweep(), 2);
        due("target of the JUMP", x.instruction(0, 2), 1);
        due("target of the BRANCH", x.instruction(1, 2), 0);
        int[] targets = {0, 1, 1, 1, 2};
        for (int e = 0; e < 5; e++) {
            dueEntry(x, e, 0, 1, 0, targets[e]);
        }
    }

    private static void p27RangesBecomeLess() {
        HandlerOptimizer x = new HandlerOptimizer();
        x.jump(3);
        x.end();
        x.end();
        x.end();
        x.addEntry(0, 2, 0, 0);
        x.addEntry(1, 4, 0, 0);
        x.addEntry(2, 48, 0, 0);
        x.addEntry(3, 5, 0, 0);
        x.addEntry(0, 3, 0, 0);
        due("sweep", x.sweep(), 2);
        dueTable(x, row(0, 1, 0, 0), row(1, 2, 0, 0), row(1, 46, 0, 0), row(1, 3, 0, 0),
                row(0, 1, 0, 0));
    }

    private static void p27EmptyRangesAreRemoved() {
        HandlerOptimizer x = new HandlerOptimizer();
        x.jump(3);
        x.end();
        x.end();
        x.end();
        x.addEntry(1, 2, 0, 40);
        x.addEntry(0, 1, 0, 41);
        x.addEntry(1, 3, 0, 42);
        x.addEntry(2, 3, 0, 43);
        x.addEntry(3, 4, 0, 44);
        due("sweep", x.sweep(), 2);
        dueTable(x, row(0, 1, 0, 39), row(3 - 2, 4 - 2, 0, 42));
        HandlerOptimizer full = new HandlerOptimizer();
        full.end();
        full.end();
        for (int e = 0; e < 24; e++) {
            full.addEntry(1, 2, 0, e);
        }
        due("sweep", full.sweep(), 1);
        due("all 24 are removed", full.entryCount(), 0);
    }

    private static void p27UnusedOnesStay() {
        HandlerOptimizer x = new HandlerOptimizer();
        x.end();
        x.end();
        x.addEntry(0, 1, 0, 0);
        x.addEntry(30, 31, 0, 0);
        due("sweep", x.sweep(), 1);
        dueTable(x, row(0, 1, 0, 0), row(29, 30, 0, 0));
    }

    private static void p27TargetsNotThere() {
        HandlerOptimizer x = new HandlerOptimizer();
        x.branch(0, 47);
        x.jump(5);
        x.end();
        x.end();
        x.end();
        due("sweep", x.sweep(), 3);
        due("target of the BRANCH", x.instruction(0, 2), 44);
        due("target of the JUMP, just behind the code", x.instruction(1, 2), 2);
        dueReached(x, 1, 1);
    }

    private static void p27NoTargetStaysNone() {
        HandlerOptimizer x = new HandlerOptimizer();
        x.branch(1, 3);
        x.jump(5);
        x.end();
        x.step(1);
        x.raise(0);
        x.end();
        due("sweep", x.sweep(), 1);
        due("target of the STEP", x.instruction(2, 2), -1);
        due("target of the RAISE", x.instruction(3, 2), -1);
        due("target of the END", x.instruction(4, 2), -1);
    }

    public static void main(String[] args) {
        test(23, "an empty table", SmallerEdgesTest::p23EmptyTable);
        test(23, "all entries that are not used: 24", SmallerEdgesTest::p23AllOfAFullTable);
        test(23, "all 24 are used", SmallerEdgesTest::p23NoneOfAFullTable);
        test(23, "only those that are not used", SmallerEdgesTest::p23UsedOnesStayAsTheyAre);
        test(23, "used by what is reached through errors",
                SmallerEdgesTest::p23WhatIsReachedByErrors);
        test(24, "an empty table", SmallerEdgesTest::p24EmptyTable);
        test(24, "entries that are not used stay as they are", SmallerEdgesTest::p24UnusedStay);
        test(24, "begins at the first, ends behind the last", SmallerEdgesTest::p24BeginAndEnd);
        test(24, "another beginning alone", SmallerEdgesTest::p24BeginAlone);
        test(24, "another end alone", SmallerEdgesTest::p24EndAlone);
        test(24, "counts those with another range than before",
                SmallerEdgesTest::p24AnotherRangeThanBefore);
        test(24, "the range of all 48", SmallerEdgesTest::p24AllOf48);
        test(24, "ends behind the last of 48", SmallerEdgesTest::p24TheLastOf48);
        test(24, "the first reached instruction, and the last", SmallerEdgesTest::p24ReachedAlone);
        test(24, "from which it takes an error, not one ahead",
                SmallerEdgesTest::p24WhatItTakesAlone);
        test(24, "an error that this can throw", SmallerEdgesTest::p24ThatThisCanThrow);
        test(24, "a full table", SmallerEdgesTest::p24AllOfAFullTable);
        test(25, "an empty table", SmallerEdgesTest::p25EmptyTable);
        test(25, "one entry is no pair", SmallerEdgesTest::p25OneEntry);
        test(25, "without instructions", SmallerEdgesTest::p25NoCode);
        test(25, "both have the same target", SmallerEdgesTest::p25OtherTargets);
        test(25, "from the smaller beginning to the greater end",
                SmallerEdgesTest::p25FromTheSmallerToTheGreater);
        test(25, "the lowest kind for both", SmallerEdgesTest::p25TheLowestKind);
        test(25, "in place of a, if it can be", SmallerEdgesTest::p25InPlaceOfA);
        test(25, "otherwise in place of b", SmallerEdgesTest::p25OtherwiseInPlaceOfB);
        test(25, "in neither place: not done", SmallerEdgesTest::p25InNeitherPlace);
        test(25, "or leave the code as before", SmallerEdgesTest::p25WhatLeftTheCodeLeaves);
        test(25, "errors that a reached instruction can throw",
                SmallerEdgesTest::p25ThatAReachedOneCanThrow);
        test(25, "the same target, not the same entry",
                SmallerEdgesTest::p25SameTargetByAnotherEntry);
        test(25, "in ascending order of b", SmallerEdgesTest::p25AscendingOrderOfB);
        test(25, "in ascending order of a first", SmallerEdgesTest::p25AscendingOrderOfA);
        test(25, "in ascending order of a, then of b",
                SmallerEdgesTest::p25OrderOfAAheadOfThatOfB);
        test(25, "when something was done, it begins anew", SmallerEdgesTest::p25BeginsAnew);
        test(25, "anew with the first pair, not with the next",
                SmallerEdgesTest::p25BeginsAnewWithTheFirst);
        test(25, "24 become one", SmallerEdgesTest::p25AllOfAFullTable);
        test(26, "an empty table", SmallerEdgesTest::p26EmptyTable);
        test(26, "a round that changes nothing does not count", SmallerEdgesTest::p26NothingToDo);
        test(26, "a full table in one round", SmallerEdgesTest::p26AFullTableInOneRound);
        test(26, "each of the three is a change", SmallerEdgesTest::p26OneOfTheThreeIsAChange);
        test(26, "dropping first", SmallerEdgesTest::p26DroppingFirst);
        test(26, "shrinking ahead of joining", SmallerEdgesTest::p26ShrinkingAheadOfJoining);
        test(26, "until a round changes nothing", SmallerEdgesTest::p26UntilARoundChangesNothing);
        test(26, "three rounds, in the order of the document", SmallerEdgesTest::p26ThreeRounds);
        test(26, "until a round changes nothing: twelve", SmallerEdgesTest::p26TwelveRounds);
        test(27, "no instructions", SmallerEdgesTest::p27NoCode);
        test(27, "all 48 are reached", SmallerEdgesTest::p27AllReached);
        test(27, "47 are removed, and there is room again", SmallerEdgesTest::p27AllButTheFirst);
        test(27, "the others are numbered from 0", SmallerEdgesTest::p27TheLastOf48Stays);
        test(27, "a target becomes less by those ahead of it", SmallerEdgesTest::p27AheadOfANumber);
        test(27, "so does the beginning or end of a range", SmallerEdgesTest::p27RangesBecomeLess);
        test(27, "entries whose range would be empty are removed",
                SmallerEdgesTest::p27EmptyRangesAreRemoved);
        test(27, "others stay, though not used", SmallerEdgesTest::p27UnusedOnesStay);
        test(27, "targets that are not there become less, too",
                SmallerEdgesTest::p27TargetsNotThere);
        test(27, "no target stays none", SmallerEdgesTest::p27NoTargetStaysNone);
        finish();
    }
}
