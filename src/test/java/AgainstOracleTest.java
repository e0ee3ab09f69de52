import java.util.Random;

/** Long runs of calls, drawn from seeds, on OrderedDisc and on the Oracle: the same answers. */
public final class AgainstOracleTest {
    // Behind these nothing is promised of an object.
    private static final int CALLS = 512;

    private interface Answer {
        long of();
    }

    private interface BooleanAnswer {
        boolean of();
    }

    private final Check check;
    private final Random random;
    private final OrderedDisc disc = new OrderedDisc();
    private final Oracle oracle = new Oracle();
    // What runs are heavy on: 0 the bare disc, 1 stores and falls, 2 scripts.
    private final int taste;
    private int calls = 0;

    private AgainstOracleTest(Check check, long seed) {
        this.check = check;
        this.random = new Random(seed);
        this.taste = (int) (seed % 3);
    }

    private int near(int n) {
        return random.nextInt(25) == 0 ? random.nextBoolean() ? -1 : n : random.nextInt(n);
    }

    private int odd() {
        switch (random.nextInt(12)) {
            case 0: return Integer.MIN_VALUE;
            case 1: return Integer.MAX_VALUE;
            case 2: return random.nextInt();
            default: return random.nextInt(4) - 1;
        }
    }

    private long oddLong() {
        switch (random.nextInt(6)) {
            case 0: return random.nextLong();
            case 1: return random.nextInt(3) - 1L;
            case 2: return Long.MIN_VALUE;
            default: return ((long) random.nextInt(3) << 32) + random.nextInt(3);
        }
    }

    private void same(String call, Answer got, Answer due) {
        if (calls < CALLS) {
            calls++;
            check.isText(call, told(got), told(due));
        }
    }

    private void sameBoolean(String call, BooleanAnswer got, BooleanAnswer due) {
        same(call, () -> got.of() ? 1 : 0, () -> due.of() ? 1 : 0);
    }

    private static String told(Answer answer) {
        try {
            return Long.toString(answer.of());
        } catch (RuntimeException e) {
            return "throws." + e.getClass().getSimpleName();
        }
    }

    private void bareCall() {
        int s = near(16);
        int a = odd();
        int b = odd();
        int small = random.nextInt(4) + (taste == 0 ? 0 : 2);
        switch (random.nextInt(9)) {
            case 0, 1 -> same("write(" + s + ", " + a + ", " + b + ")", () -> disc.write(s, a, b), () -> oracle.write(s, a, b));
            case 2, 3 -> same("write(" + small + ", " + a + ", " + b + ")", () -> disc.write(small, a, b), () -> oracle.write(small, a, b));
            case 4, 5, 6 -> same("fence()", disc::fence, oracle::fence);
            case 7 -> same("write(" + s + ", 0, 0)", () -> disc.write(s, 0, 0), () -> oracle.write(s, 0, 0));
            default -> {
                if (random.nextInt(6) == 0) {
                    same("flush()", disc::flush, oracle::flush);
                }
            }
        }
    }

    private int anyState() {
        same("states()", disc::states, oracle::states);
        int n = oracle.statesUncounted();
        return n > 0 ? near(n) : random.nextInt(3);
    }

    private void stateCall() {
        int s = near(16);
        int part = near(2);
        switch (random.nextInt(7)) {
            case 0 -> same("states()", disc::states, oracle::states);
            case 1 -> {
                int i = anyState();
                for (int p = 0; p < 32; p++) {
                    int at = p;
                    same("state(" + i + ", " + at / 2 + ", " + at % 2 + ")", () -> disc.state(i, at / 2, at % 2), () -> oracle.state(i, at / 2, at % 2));
                }
                int next = i + random.nextInt(2);
                same("state(" + next + ", " + s + ", " + part + ")", () -> disc.state(next, s, part), () -> oracle.state(next, s, part));
            }
            case 2 -> {
                if (random.nextInt(4) == 0) {
                    int i = anyState();
                    same("fall(" + i + ")", () -> disc.fall(i), () -> oracle.fall(i));
                }
            }
            case 3 -> same("read(" + s + ", " + part + ")", () -> disc.read(s, part), () -> oracle.read(s, part));
            case 4 -> same("plate(" + s + ", " + part + ")", () -> disc.plate(s, part), () -> oracle.plate(s, part));
            case 5 -> {
                int i = random.nextInt(62) - 1;
                int what = near(4);
                same("entry(" + i + ", " + what + ")", () -> disc.entry(i, what), () -> oracle.entry(i, what));
            }
            default -> {
                int what = near(2);
                same("digest(" + what + ")", () -> disc.digest(what), () -> oracle.digest(what));
            }
        }
    }

    private void storeCall() {
        int k = near(3);
        int l = near(3);
        long v = oddLong();
        switch (random.nextInt(12)) {
            case 0 -> {
                if (random.nextInt(6) == 0) {
                    int kind = near(3);
                    same("store(" + kind + ")", () -> disc.store(kind), () -> oracle.store(kind));
                }
            }
            case 1, 2, 3 -> same("put(" + k + ", " + v + ")", () -> disc.put(k, v), () -> oracle.put(k, v));
            case 4, 5 -> same("move(" + k + ", " + l + ")", () -> disc.move(k, l), () -> oracle.move(k, l));
            case 6, 7 -> same("get(" + k + ")", () -> disc.get(k), () -> oracle.get(k));
            case 8 -> same("rise()", disc::rise, oracle::rise);
            case 9 -> sameBoolean("isSound()", disc::isSound, oracle::isSound);
            case 10 -> {
                if (random.nextInt(3) == 0) {
                    same("flush()", disc::flush, oracle::flush);
                }
            }
            default -> {
                int i = anyState();
                if (random.nextInt(3) == 0) {
                    same("fall(" + i + ")", () -> disc.fall(i), () -> oracle.fall(i));
                    same("rise()", disc::rise, oracle::rise);
                }
            }
        }
    }

    private void spareCall() {
        int kind = near(3);
        int fence = near(4);
        boolean on = random.nextBoolean();
        sameBoolean("spare(" + kind + ", " + fence + ", " + on + ")", () -> disc.spare(kind, fence, on), () -> oracle.spare(kind, fence, on));
    }

    private void scriptCall() {
        int k = near(3);
        int l = near(3);
        long v = oddLong();
        switch (random.nextInt(8)) {
            case 0, 1 -> same("addPut(" + k + ", " + v + ")", () -> disc.addPut(k, v), () -> oracle.addPut(k, v));
            case 2 -> same("addMove(" + k + ", " + l + ")", () -> disc.addMove(k, l), () -> oracle.addMove(k, l));
            case 3 -> same("addSure()", disc::addSure, oracle::addSure);
            case 4 -> {
                if (random.nextInt(3) == 0) {
                    same("clear()", disc::clear, oracle::clear);
                }
            }
            case 5 -> spareCall();
            case 6 -> goThrough();
            default -> {
                if (random.nextInt(4) == 0) {
                    int kind = near(3);
                    same("least(" + kind + ")", () -> disc.least(kind), () -> oracle.least(kind));
                }
            }
        }
    }

    private void goThrough() {
        int kind = near(3);
        same("through(" + kind + ")", () -> disc.through(kind), () -> oracle.through(kind));
        for (int what = -1; what < 8; what++) {
            int w = what;
            same("gone(" + w + ")", () -> disc.gone(w), () -> oracle.gone(w));
        }
        for (int what = -1; what < 11; what++) {
            int w = what;
            int i = random.nextInt(4) == 0 ? random.nextInt(52) - 1 : random.nextInt(4);
            same("bad(" + i + ", " + w + ")", () -> disc.bad(i, w), () -> oracle.bad(i, w));
        }
    }

    private void statusCall() {
        for (int what = -1; what < 18; what++) {
            int w = what;
            same("status(" + w + ")", () -> disc.status(w), () -> oracle.status(w));
        }
    }

    private void run() {
        // Some draws make no call; the last calls are for statusCall().
        for (int draws = 0; draws < CALLS && calls < CALLS - 19; draws++) {
            int draw = random.nextInt(20);
            if (draw == 0) {
                statusCall();
            } else if (draw < 4) {
                stateCall();
            } else if (draw == 4) {
                spareCall();
            } else if (taste == 0) {
                bareCall();
            } else if (taste == 1) {
                if (draw < 7) {
                    bareCall();
                } else {
                    storeCall();
                }
            } else {
                scriptCall();
            }
        }
        statusCall();
    }

    public static void main(String[] args) {
        int runs = args.length > 0 ? Integer.parseInt(args[0]) : 150;
        int from = args.length > 1 ? Integer.parseInt(args[1]) : 0;
        Check check = new Check();
        for (int seed = from; seed < from + runs && check.wrong() == 0; seed++) {
            check.at("seed " + seed);
            new AgainstOracleTest(check, seed).run();
        }
        check.finish();
    }
}
