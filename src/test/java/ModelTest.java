import java.util.Random;

/**
 * Long random runs of calls, of fixed seeds, on the class and on Model: after each call the answers and
 * all that can be seen of both must be the same.
 */
final class ModelTest {
    private static final int RUNS = 800;
    private static final int EDGY_FROM = 600;
    private static final int CALLS = 400;

    private final Random random;
    private final WhoIsThere x = new WhoIsThere();
    private final Model model = new Model();
    private final int nets;
    private final int names;
    private final int longest;
    private final boolean quiet;
    private final boolean edgy;
    private String call = "";
    private static long compared;
    private static final long[] SEEN = new long[11];
    private static long pairsSeen;
    private static long wakingReaches;

    private ModelTest(long seed) {
        random = new Random(seed);
        nets = 1 + random.nextInt(4);
        names = 2 + random.nextInt(random.nextBoolean() ? 4 : 30);
        longest = random.nextBoolean() ? 12 : 60;
        quiet = random.nextInt(3) == 0;
        edgy = seed >= EDGY_FROM;
    }

    public static void main(String[] args) {
        int runs = args.length > 0 ? Integer.parseInt(args[0]) : RUNS;
        for (int run = 0; run < runs; run++) {
            new ModelTest(run).play(run);
        }
        boolean allSeen = pairsSeen > 0 && wakingReaches > 0;
        for (int what = 3; what <= 10; what++) {
            System.out.println("seen in all, count(" + what + "): " + SEEN[what]);
            allSeen &= SEEN[what] > 0;
        }
        System.out.println("seen in all: pairs " + pairsSeen + ", reaches that wake " + wakingReaches);
        System.out.println("ModelTest: " + compared + " answers compared");
        if (!allSeen) {
            System.out.println("the runs are too tame: something was never seen");
            System.exit(1);
        }
    }

    private void play(int run) {
        for (int i = 0; i < CALLS; i++) {
            int[] answers = i < 12 ? settle() : anyCall();
            if (answers[0] != answers[1]) {
                fail(run, i, call, answers[0], answers[1]);
            }
            compareAll(run, i);
        }
        for (int what = 3; what <= 10; what++) {
            SEEN[what] += x.count(what);
        }
    }

    private static void fail(int run, int i, String what, int got, int want) {
        System.out.println("run " + run + ", call " + i + ", " + what + " answered " + got + ", the model " + want);
        System.exit(1);
    }

    private int upTo(int most) {
        return random.nextInt(most + 1);
    }

    /** Mostly a number from least to most, in edgy runs often an end, at times one just outside, rarely far off. */
    private int near(int least, int most) {
        int dice = random.nextInt(200);
        if (dice == 0) {
            return random.nextInt();
        }
        if (edgy && dice >= 120) {
            return dice < 160 ? least : most;
        }
        return dice < 4 ? least - 1 : dice < 7 ? most + 1 : least + upTo(most - least);
    }

    private int aHost() {
        return near(0, Math.max(0, x.count(1) - 1));
    }

    private int aService() {
        return near(0, Math.max(0, x.count(2) - 1));
    }

    private int aKind() {
        return random.nextInt(10) == 0 ? near(0, 15) : near(0, 2);
    }

    private int someMarks() {
        return random.nextInt(6) == 0 ? near(0, 255) : near(0, 3);
    }

    private int aLife() {
        return random.nextInt(10) == 0 ? near(4, 200) : near(4, longest);
    }

    private int[] both(String made, int got, int want) {
        call = made;
        return new int[] {got, want};
    }

    private int[] both(String made, boolean got, boolean want) {
        return both(made, got ? 1 : 0, want ? 1 : 0);
    }

    private int[] settle() {
        switch (upTo(4)) {
            case 0:
                return aBridge();
            case 1:
                return anOffer();
            default:
                return addHost();
        }
    }

    private int[] addHost() {
        int net = near(0, nets - 1);
        int from = near(1, names);
        int to = near(from, from + names);
        int rank = random.nextInt(8) == 0 ? near(0, 1000) : near(0, 3);
        return both("host", x.host(net, from, to, rank), model.host(net, from, to, rank));
    }

    private int[] anOffer() {
        int h = aHost();
        int kind = aKind();
        int name = near(1, 2 * names);
        int marks = someMarks();
        int life = aLife();
        if (random.nextInt(4) == 0) {
            return both("lie", x.lie(h, kind, name, marks, life), model.lie(h, kind, name, marks, life));
        }
        return both("offer", x.offer(h, kind, name, marks, life), model.offer(h, kind, name, marks, life));
    }

    private int[] aBridge() {
        int h = aHost();
        int net = near(0, nets - 1);
        int kinds = random.nextBoolean() ? 65535 : near(0, 65535);
        return both("bridge", x.bridge(h, net, kinds), model.bridge(h, net, kinds));
    }

    private int[] aSleep() {
        int h = aHost();
        int proxy = aHost();
        return both("sleep", x.sleep(h, proxy), model.sleep(h, proxy));
    }

    private int[] aKeeper() {
        int h = aHost();
        boolean is = random.nextBoolean();
        return both("keeper", x.keeper(h, is), model.keeper(h, is));
    }

    private int[] anAsk() {
        int h = aHost();
        int kind = aKind();
        int marks = someMarks();
        return both("ask", x.ask(h, kind, marks), model.ask(h, kind, marks));
    }

    private int[] aTick() {
        int dice = random.nextInt(20);
        int n = dice == 0 ? near(1, 50) : dice < 5 ? near(1, 6) : 1;
        return both("tick", x.tick(n), model.tick(n));
    }

    private int[] aReach() {
        int h = aHost();
        int s = aService();
        int got = x.reach(h, s);
        wakingReaches += got == 2 ? 1 : 0;
        return both("reach", got, model.reach(h, s));
    }

    private int[] anyCall() {
        int dice = random.nextInt(100);
        if (dice < 36) {
            return aTick();
        }
        if (dice < 48) {
            return anOffer();
        }
        if (dice < 60) {
            return anAsk();
        }
        if (dice < 66) {
            return aSleep();
        }
        if (dice < 70) {
            return aReach();
        }
        return dice < 85 ? aChange() : aTrouble();
    }

    private int[] aChange() {
        int h = aHost();
        int s = aService();
        int marks = someMarks();
        switch (upTo(5)) {
            case 0:
                return both("drop", x.drop(s), model.drop(s));
            case 1:
                return both("change", x.change(s, marks), model.change(s, marks));
            case 2:
                return both("wake", x.wake(h), model.wake(h));
            case 3:
                return addHost();
            case 4:
                return aBridge();
            default:
                return aKeeper();
        }
    }

    private int[] aTrouble() {
        int h = aHost();
        int n = random.nextBoolean() ? near(0, 3) : near(0, 100);
        int a = near(0, nets - 1);
        int b = near(0, nets - 1);
        int dice = random.nextInt(60);
        if (dice < 3) {
            return both("join", x.join(a, b), model.join(a, b));
        }
        if (dice < 8) {
            return both("leave", x.leave(h), model.leave(h));
        }
        if (dice < 11) {
            return both("fall", x.fall(h), model.fall(h));
        }
        if (quiet) {
            return anAsk();
        }
        return dice < 35
                ? both("lose", x.lose(h, n), model.lose(h, n))
                : both("deaf", x.deaf(h, n), model.deaf(h, n));
    }

    private void compare(int run, int i, String what, int got, int want) {
        compared++;
        if (got != want) {
            fail(run, i, call + ", then " + what, got, want);
        }
    }

    private void compareAll(int run, int i) {
        for (int what = -1; what <= 11; what++) {
            compare(run, i, "count " + what, x.count(what), model.count(what));
        }
        for (int net = -1; net <= 4; net++) {
            pairsSeen += Math.max(0, x.twice(net));
            compare(run, i, "twice " + net, x.twice(net), model.twice(net));
        }
        for (int h = -1; h <= x.count(1); h++) {
            for (int what = -1; what <= 9; what++) {
                compare(run, i, "look " + h + " " + what, x.look(h, what), model.look(h, what));
            }
        }
        for (int s = -1; s <= x.count(2); s++) {
            for (int what = -1; what <= 8; what++) {
                compare(run, i, "service " + s + " " + what, x.service(s, what), model.service(s, what));
            }
            for (int h = 0; h < x.count(1); h++) {
                for (int what = -1; what <= 4; what++) {
                    compare(run, i, "record " + h + " " + s + " " + what,
                            x.record(h, s, what), model.record(h, s, what));
                }
            }
        }
        int h = aHost();
        int kind = aKind();
        int marks = someMarks();
        for (int k = -1; k < 6; k++) {
            compare(run, i, "find", x.find(h, kind, marks, k), model.find(h, kind, marks, k));
        }
    }
}
