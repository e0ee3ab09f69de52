import java.util.Random;

/**
 * Calls with any ints at all, in any state: nothing but what the document names is ever thrown,
 * and what is made stays small, since all calls of a run share one room.
 */
public final class WildCallsTest {
    private static final int[] EDGES = {0, 1, 2, 3, 4, 7, 8, 15, 16, 31, 32, 49, 50, 59, 60, 61, 63, 64, 4095, 4096,
        -1, -2, -60, Integer.MIN_VALUE, Integer.MIN_VALUE + 1, Integer.MAX_VALUE, Integer.MAX_VALUE - 1, 1 << 30, 1 << 31 >> 4};

    private final Random random;
    private final OrderedDisc x = new OrderedDisc();

    private WildCallsTest(long seed) {
        random = new Random(seed);
    }

    private int any() {
        int draw = random.nextInt(10);
        return draw == 0 ? random.nextInt() : draw < 4 ? EDGES[random.nextInt(EDGES.length)] : random.nextInt(8);
    }

    private void call(int which) {
        switch (which) {
            case 0 -> x.write(any(), any(), any());
            case 1 -> x.fence();
            case 2 -> x.flush();
            case 3 -> x.entry(any(), any());
            case 4 -> x.states();
            case 5 -> x.fall(any());
            case 6 -> x.store(any());
            case 7 -> x.put(any(), random.nextLong());
            case 8 -> x.move(any(), any());
            case 9 -> x.rise();
            case 10 -> x.isSound();
            case 11 -> x.addPut(any(), any());
            case 12 -> x.addMove(any(), any());
            case 13 -> x.addSure();
            case 14 -> {
                if (random.nextInt(4) == 0) {
                    x.clear();
                }
            }
            case 15 -> x.through(any());
            case 16 -> x.gone(any());
            case 17 -> x.bad(any(), any());
            case 18 -> x.spare(any(), any(), random.nextBoolean());
            case 19 -> x.least(any());
            case 20 -> x.digest(any());
            default -> x.status(any());
        }
    }

    private String callThatMayThrow(int which) {
        try {
            switch (which) {
                case 0 -> x.read(any(), any());
                case 1 -> x.plate(any(), any());
                case 2 -> x.state(any(), any(), any());
                default -> x.get(any());
            }
        } catch (IndexOutOfBoundsException e) {
            // The machine's own ones are of classes below this one.
            return e.getClass() == IndexOutOfBoundsException.class ? "" : e.toString();
        } catch (IllegalStateException e) {
            return which == 3 && x.status(3) == -1 ? "" : e.toString();
        }
        return "";
    }

    private static void run(Check check, int seed) {
        WildCallsTest test = new WildCallsTest(seed);
        // An object is used for 512 calls; callThatMayThrow() makes a second one now and then.
        for (int i = 0; i < 450; i++) {
            String thrown = "";
            try {
                if (test.random.nextInt(6) == 0) {
                    thrown = test.callThatMayThrow(test.random.nextInt(4));
                } else {
                    test.call(test.random.nextInt(22));
                }
            } catch (RuntimeException e) {
                thrown = e.toString();
            }
            check.isText("a call", thrown, "");
        }
    }

    /** Bytes that the dearest calls make. */
    private static long bytesOfDearCalls() {
        com.sun.management.ThreadMXBean bean =
            (com.sun.management.ThreadMXBean) java.lang.management.ManagementFactory.getThreadMXBean();
        OrderedDisc x = new OrderedDisc();
        for (int i = 1; i <= 5; i++) {
            x.addPut(i % 3, i * 0x1234567890ABL);
        }
        for (int s = 0; s < 6; s++) {
            x.write(s, 1, 1);
        }
        long thread = Thread.currentThread().getId();
        bean.getThreadAllocatedBytes(thread);
        long before = bean.getThreadAllocatedBytes(thread);
        for (int i = 0; i < 100; i++) {
            x.least(1);
            x.through(i % 3);
            x.state(4095 - i, 3, 1);
            x.states();
        }
        return bean.getThreadAllocatedBytes(thread) - before;
    }

    public static void main(String[] args) {
        Check check = new Check();
        for (int seed = 0; seed < 350; seed++) {
            check.at("seed " + seed);
            run(check, seed);
        }
        check.at("room");
        check.is("400 dear calls make nothing much", bytesOfDearCalls() < 10000, true);
        check.finish();
    }
}
