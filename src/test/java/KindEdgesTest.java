/** Promises 1 to 5: one test for each sentence that names a boundary case. */
public final class KindEdgesTest extends Due {
    private KindEdgesTest() {
    }

    private static void p01KindZeroAlone() {
        HandlerOptimizer x = new HandlerOptimizer();
        due("kindCount", x.kindCount(), 1);
        due("common(0, 0)", x.common(0, 0), 0);
        dueThrow("common(0, 1)", x, INDEX, o -> o.common(0, 1));
        due("step(1)", x.step(1), 0);
        dueThrow("step(2)", x, ARGUMENT, o -> o.step(2));
    }

    private static void p01NoInstructions() {
        HandlerOptimizer x = new HandlerOptimizer();
        due("size", x.size(), 0);
        dueThrow("instruction(0, 0)", x, INDEX, o -> o.instruction(0, 0));
        dueThrow("isReached(0)", x, INDEX, o -> o.isReached(0));
        due("the first instruction", x.end(), 0);
    }

    private static void p01NoEntries() {
        HandlerOptimizer x = new HandlerOptimizer();
        due("entryCount", x.entryCount(), 0);
        dueThrow("entry(0, 0)", x, INDEX, o -> o.entry(0, 0));
        dueThrow("isUsed(0)", x, INDEX, o -> o.isUsed(0));
        due("the first entry", x.addEntry(0, 1, 0, 0), 0);
    }

    private static void p01NoRun() {
        HandlerOptimizer x = new HandlerOptimizer();
        due("executed", x.executed(), 0);
        due("taken", x.taken(), 0);
        due("escaped", x.escaped(), -1);
        due("way", x.way(), 0);
    }

    private static void p01NewBesideAFullOne() {
        HandlerOptimizer full = withAllKinds();
        for (int i = 0; i < 48; i++) {
            full.raise(7);
        }
        for (int e = 0; e < 24; e++) {
            full.addEntry(0, 47, 1, 47);
        }
        full.run(0, 500);
        HandlerOptimizer x = new HandlerOptimizer();
        dueDigest(x, 1, 0, 0, 0, 0, -1);
        due("way", x.way(), 0);
    }

    /** 55 calls to fill it, 2 ahead of the loop, 454 in it, and the last one. */
    private static void p01All512Calls() {
        HandlerOptimizer x = withAllKinds();
        for (int i = 0; i < 24; i++) {
            x.step(255);
            x.addEntry(2 * i, 2 * i + 2, i % 8, 47);
        }
        long digest = x.digest();
        due("kindCount", x.kindCount(), 8);
        for (int i = 0; i < 227; i++) {
            due("run", x.run(i % 9 + 9L * i, 0), 2);
            due("parts", x.parts(), 12);
        }
        due("the 512th call", x.digest(), digest);
    }

    private static void p02NoSuchParent() {
        HandlerOptimizer x = new HandlerOptimizer();
        for (int count = 1; count < 8; count++) {
            for (int no : row(-1, count, count + 1, 8, MIN, MAX)) {
                dueThrow("addKind(" + no + ") with " + count, x, INDEX, o -> o.addKind(no));
            }
            due("addKind", x.addKind(count - 1), count);
        }
    }

    private static void p02ParentsFromZeroToTheLast() {
        HandlerOptimizer x = new HandlerOptimizer();
        due("addKind(0)", x.addKind(0), 1);
        due("addKind(1)", x.addKind(1), 2);
        due("addKind(0)", x.addKind(0), 3);
        due("isBelow(2, 1)", x.isBelow(2, 1), true);
        due("isBelow(3, 1)", x.isBelow(3, 1), false);
        due("isBelow(3, 0)", x.isBelow(3, 0), true);
    }

    private static void p02EightKindsAreAll() {
        HandlerOptimizer x = withKinds(0, 1, 2, 3, 4, 5);
        due("the eighth", x.addKind(6), 7);
        for (int parent = 0; parent < 8; parent++) {
            int above = parent;
            dueThrow("the ninth", x, STATE, o -> o.addKind(above));
        }
        due("kindCount", x.kindCount(), 8);
    }

    private static void p02IndexIsNamedFirst() {
        HandlerOptimizer x = withAllKinds();
        for (int no : row(-1, 8, MIN, MAX)) {
            dueThrow("the ninth below " + no, x, INDEX, o -> o.addKind(no));
        }
    }

    private static void p02RefusedChangesNothing() {
        HandlerOptimizer x = new HandlerOptimizer();
        dueThrow("addKind(1)", x, INDEX, o -> o.addKind(1));
        due("kindCount", x.kindCount(), 1);
        dueThrow("addKind(1)", x, INDEX, o -> o.addKind(1));
        due("addKind(0)", x.addKind(0), 1);
        dueDigest(x, 2, 0, 0, 0, 0, 0, -1);
    }

    private static void p03FromOneToEight() {
        HandlerOptimizer x = new HandlerOptimizer();
        due("the least", x.kindCount(), 1);
        for (int count = 2; count <= 8; count++) {
            x.addKind(0);
            due("kindCount", x.kindCount(), count);
        }
    }

    private static void p03RefusedDoNotCount() {
        HandlerOptimizer x = withAllKinds();
        dueThrow("the ninth", x, STATE, o -> o.addKind(0));
        due("kindCount", x.kindCount(), 8);
        HandlerOptimizer y = new HandlerOptimizer();
        dueThrow("no parent", y, INDEX, o -> o.addKind(-1));
        due("kindCount", y.kindCount(), 1);
    }

    private static void p04NoSuchFirst() {
        HandlerOptimizer x = withTree();
        for (int no : row(-1, 6, 7, 8, 31, 32, MIN, MAX)) {
            dueThrow("isBelow(" + no + ", 0)", x, INDEX, o -> o.isBelow(no, 0));
        }
        HandlerOptimizer full = withAllKinds();
        due("isBelow(7, 0)", full.isBelow(7, 0), true);
        dueThrow("isBelow(8, 0)", full, INDEX, o -> o.isBelow(8, 0));
    }

    private static void p04NoSuchSecond() {
        HandlerOptimizer x = withTree();
        for (int no : row(-1, 6, 7, 8, 31, 32, MIN, MAX)) {
            dueThrow("isBelow(5, " + no + ")", x, INDEX, o -> o.isBelow(5, no));
            dueThrow("isBelow of " + no + " twice", x, INDEX, o -> o.isBelow(no, no));
        }
        HandlerOptimizer full = withAllKinds();
        due("isBelow(0, 7)", full.isBelow(0, 7), false);
        dueThrow("isBelow(0, 8)", full, INDEX, o -> o.isBelow(0, 8));
    }

    private static void p04NoneIsBelowItself() {
        HandlerOptimizer x = withKinds(0, 1, 2, 3, 4, 5, 6);
        for (int k = 0; k < 8; k++) {
            due("isBelow of " + k, x.isBelow(k, k), false);
        }
    }

    private static void p04ThroughAllParents() {
        HandlerOptimizer x = withKinds(0, 1, 2, 3, 4, 5, 6);
        for (int low = 0; low < 8; low++) {
            for (int high = 0; high < low; high++) {
                due("isBelow(" + low + ", " + high + ")", x.isBelow(low, high), true);
                due("isBelow(" + high + ", " + low + ")", x.isBelow(high, low), false);
            }
        }
    }

    private static void p04NotBesideEachOther() {
        HandlerOptimizer x = withTree();
        due("isBelow(2, 1)", x.isBelow(2, 1), false);
        due("isBelow(4, 3)", x.isBelow(4, 3), false);
        due("isBelow(5, 4)", x.isBelow(5, 4), false);
        due("isBelow(5, 2)", x.isBelow(5, 2), false);
    }

    private static void p05NoSuchFirst() {
        HandlerOptimizer x = withTree();
        for (int no : row(-1, 6, 7, 8, 31, 32, MIN, MAX)) {
            dueThrow("common(" + no + ", 0)", x, INDEX, o -> o.common(no, 0));
        }
        HandlerOptimizer full = withAllKinds();
        dueThrow("common(8, 0)", full, INDEX, o -> o.common(8, 0));
    }

    private static void p05NoSuchSecond() {
        HandlerOptimizer x = withTree();
        for (int no : row(-1, 6, 7, 8, 31, 32, MIN, MAX)) {
            dueThrow("common(0, " + no + ")", x, INDEX, o -> o.common(0, no));
            dueThrow("common of " + no + " twice", x, INDEX, o -> o.common(no, no));
        }
        HandlerOptimizer full = withAllKinds();
        dueThrow("common(0, 8)", full, INDEX, o -> o.common(0, 8));
    }

    private static void p05OfAKindWithItself() {
        HandlerOptimizer x = withKinds(0, 1, 2, 3, 4, 5, 6);
        for (int k = 0; k < 8; k++) {
            due("common of " + k, x.common(k, k), k);
        }
    }

    private static void p05OneAboveTheOther() {
        HandlerOptimizer x = withKinds(0, 1, 2, 3, 4, 5, 6);
        for (int low = 0; low < 8; low++) {
            for (int high = 0; high < low; high++) {
                due("common(" + low + ", " + high + ")", x.common(low, high), high);
                due("common(" + high + ", " + low + ")", x.common(high, low), high);
            }
        }
    }

    private static void p05OnlyKindZeroAboveBoth() {
        HandlerOptimizer x = withKinds(0, 0, 1, 2, 3, 4, 5);
        due("common(7, 6)", x.common(7, 6), 0);
        due("common(1, 2)", x.common(1, 2), 0);
        due("common(7, 2)", x.common(7, 2), 0);
    }

    private static void p05TheLowestOfMany() {
        HandlerOptimizer x = withKinds(0, 1, 2, 3, 3, 4, 5);
        due("common(6, 7)", x.common(6, 7), 3);
        due("common(7, 4)", x.common(7, 4), 3);
        due("common(4, 5)", x.common(4, 5), 3);
        HandlerOptimizer y = withKinds(0, 1, 1, 2);
        due("common(4, 3)", y.common(4, 3), 1);
    }

    public static void main(String[] args) {
        test(1, "with the kind 0 alone", KindEdgesTest::p01KindZeroAlone);
        test(1, "without instructions", KindEdgesTest::p01NoInstructions);
        test(1, "without entries", KindEdgesTest::p01NoEntries);
        test(1, "there was no run", KindEdgesTest::p01NoRun);
        test(1, "a new one is empty, though another is full", KindEdgesTest::p01NewBesideAFullOne);
        test(1, "it is used for at most 512 calls", KindEdgesTest::p01All512Calls);
        test(2, "throws if there is no such kind", KindEdgesTest::p02NoSuchParent);
        test(2, "a parent is a kind with a smaller number, from 0 on",
                KindEdgesTest::p02ParentsFromZeroToTheLast);
        test(2, "throws if there are 8 kinds", KindEdgesTest::p02EightKindsAreAll);
        test(2, "the exception that is named first", KindEdgesTest::p02IndexIsNamedFirst);
        test(2, "a refused call changes nothing", KindEdgesTest::p02RefusedChangesNothing);
        test(3, "at most 8, the kind 0 from the beginning on", KindEdgesTest::p03FromOneToEight);
        test(3, "refused ones do not count", KindEdgesTest::p03RefusedDoNotCount);
        test(4, "throws if there is no such kind a", KindEdgesTest::p04NoSuchFirst);
        test(4, "throws if there is no such kind b", KindEdgesTest::p04NoSuchSecond);
        test(4, "below another one, so not itself", KindEdgesTest::p04NoneIsBelowItself);
        test(4, "or its parent is below that", KindEdgesTest::p04ThroughAllParents);
        test(4, "not below one beside it", KindEdgesTest::p04NotBesideEachOther);
        test(5, "throws if there is no such kind a", KindEdgesTest::p05NoSuchFirst);
        test(5, "throws if there is no such kind b", KindEdgesTest::p05NoSuchSecond);
        test(5, "a kind that is a", KindEdgesTest::p05OfAKindWithItself);
        test(5, "a kind that is b and above a", KindEdgesTest::p05OneAboveTheOther);
        test(5, "the kind 0, where no other is above both",
                KindEdgesTest::p05OnlyKindZeroAboveBoth);
        test(5, "the lowest of those above both", KindEdgesTest::p05TheLowestOfMany);
        finish();
    }
}
