import java.math.BigInteger;

/** What the tests share: each answer is compared with the one that is due; wrong ones are told. */
abstract class Due {
    static final int MIN = Integer.MIN_VALUE;
    static final int MAX = Integer.MAX_VALUE;
    static final Class<? extends RuntimeException> INDEX = IndexOutOfBoundsException.class;
    static final Class<? extends RuntimeException> ARGUMENT = IllegalArgumentException.class;
    static final Class<? extends RuntimeException> STATE = IllegalStateException.class;

    private static int wrong = 0;
    private static int tests = 0;
    private static int failed = 0;

    interface Call {
        void make(HandlerOptimizer x);
    }

    /** One test: the promise's number and the sentence that would be broken if it failed. */
    static void test(int promise, String sentence, Runnable body) {
        int before = wrong;
        tests++;
        try {
            body.run();
        } catch (RuntimeException e) {
            tellWrong("a call threw " + e);
        }
        if (wrong > before) {
            failed++;
        }
        System.out.println((wrong == before ? "  holds: " : "  BROKEN: ") + "promise " + promise
                + ": " + sentence);
    }

    static void finish() {
        System.out.println(tests + " tests, " + failed + " failed");
        System.exit(failed == 0 && tests > 0 ? 0 : 1);
    }

    private static void tellWrong(String what) {
        wrong++;
        System.out.println(what);
    }

    static void due(String call, long got, long want) {
        if (got != want) {
            tellWrong(call + " answered " + got + ", due is " + want);
        }
    }

    static void due(String call, boolean got, boolean want) {
        due(call, got ? 1 : 0, want ? 1 : 0);
    }

    static void dueShare(HandlerOptimizer x, double want) {
        double got = x.share();
        if (got != want) {
            tellWrong("share answered " + got + ", due is " + want);
        }
    }

    /** The call must throw just this, and leave all that digest and way tell as it was. */
    static void dueThrow(String name, HandlerOptimizer x, Class<? extends RuntimeException> want,
            Call call) {
        long digest = x.digest();
        long way = x.way();
        Class<?> got = null;
        try {
            call.make(x);
        } catch (RuntimeException e) {
            got = e.getClass();
        }
        if (got != want) {
            tellWrong(name + " threw " + got + ", due is " + want);
        }
        due(name + ": digest behind it", x.digest(), digest);
        due(name + ": way behind it", x.way(), way);
    }

    static void dueInstruction(HandlerOptimizer x, int i, int form, int thrown, int target) {
        due("form of " + i, x.instruction(i, 0), form);
        due("thrown of " + i, x.instruction(i, 1), thrown);
        due("target of " + i, x.instruction(i, 2), target);
    }

    static void dueEntry(HandlerOptimizer x, int e, int from, int to, int kind, int target) {
        due("begin of " + e, x.entry(e, 0), from);
        due("end of " + e, x.entry(e, 1), to);
        due("kind of " + e, x.entry(e, 2), kind);
        due("target of " + e, x.entry(e, 3), target);
    }

    /** The table has just these entries, each with its begin, end, kind and target. */
    static void dueTable(HandlerOptimizer x, int[]... entries) {
        due("entryCount", x.entryCount(), entries.length);
        for (int e = 0; e < entries.length && e < x.entryCount(); e++) {
            dueEntry(x, e, entries[e][0], entries[e][1], entries[e][2], entries[e][3]);
        }
    }

    static void dueReached(HandlerOptimizer x, int... want) {
        due("size", x.size(), want.length);
        for (int i = 0; i < want.length; i++) {
            due("isReached(" + i + ")", x.isReached(i), want[i] != 0);
        }
    }

    /** The outcome, then what executed, taken and escaped tell. */
    static void dueRun(HandlerOptimizer x, long choices, int most, int... want) {
        String name = "run(" + choices + ", " + most + ")";
        due(name, x.run(choices, most), want[0]);
        due(name + " executed", x.executed(), want[1]);
        due(name + " taken", x.taken(), want[2]);
        due(name + " escaped", x.escaped(), want[3]);
    }

    static void dueWay(HandlerOptimizer x, int... numbers) {
        due("way", x.way(), wrapped(7, numbers));
    }

    static void dueDigest(HandlerOptimizer x, int... numbers) {
        due("digest", x.digest(), wrapped(137, numbers));
    }

    /** Without Java's own wrap-around: only the end of it is cut down to 64 bits. */
    static long wrapped(int start, int... numbers) {
        BigInteger sum = BigInteger.valueOf(start);
        for (int number : numbers) {
            sum = sum.multiply(BigInteger.valueOf(31)).add(BigInteger.valueOf(number));
        }
        return sum.longValue();
    }

    static int[] row(int... numbers) {
        return numbers;
    }

    /** Kinds 0; 1 and 2 below it; 3 and 4 below 1; 5 below 3. */
    static HandlerOptimizer withTree() {
        return withKinds(0, 0, 1, 1, 3);
    }

    static HandlerOptimizer withKinds(int... parents) {
        HandlerOptimizer x = new HandlerOptimizer();
        for (int parent : parents) {
            x.addKind(parent);
        }
        return x;
    }

    static HandlerOptimizer withAllKinds() {
        return withKinds(0, 0, 0, 0, 0, 0, 0);
    }

    static HandlerOptimizer withSteps(HandlerOptimizer x, int... thrown) {
        for (int set : thrown) {
            x.step(set);
        }
        return x;
    }

    /** 48 steps that can throw kind 0. */
    static HandlerOptimizer withFullCode() {
        HandlerOptimizer x = new HandlerOptimizer();
        for (int i = 0; i < 48; i++) {
            due("number of a step", x.step(1), i);
        }
        return x;
    }

    /** 24 entries: each for one instruction, the target is that number and 2 more. */
    static HandlerOptimizer withFullTable() {
        HandlerOptimizer x = new HandlerOptimizer();
        for (int e = 0; e < 24; e++) {
            due("number of an entry", x.addEntry(e, e + 1, 0, e + 2), e);
        }
        return x;
    }

    static long waysOf(HandlerOptimizer x, int runs) {
        long sum = 0;
        for (int choices = 0; choices < runs; choices++) {
            x.run(choices, 40);
            sum = sum * 1000003 + x.way();
        }
        return sum;
    }
}
