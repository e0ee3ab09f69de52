/** Each promise of the document by its number, with answers worked out by hand from its words. */
public final class PromisesTest {
    private static final Class<IndexOutOfBoundsException> NO_INDEX = IndexOutOfBoundsException.class;
    private static final Class<IllegalStateException> NO_STATE = IllegalStateException.class;
    private static final int MIN = Integer.MIN_VALUE;
    private static final int MAX = Integer.MAX_VALUE;
    // HIGH 1, LOW 1: what a fall can tear in two.
    private static final long TWO_PARTS = 4294967297L;

    private static final Check check = new Check();

    private static void is(String call, long got, long due) {
        check.is(call, got, due);
    }

    private static void is(String call, boolean got, boolean due) {
        check.is(call, got, due);
    }

    private static void queueIs(OrderedDisc x, String due) {
        check.isText("the QUEUE", Discs.queue(x), due);
    }

    private static void p1() {
        OrderedDisc x = new OrderedDisc();
        int[] due = {0, 0, 0, -1, 0, 0, 0, 0};
        for (int what = 0; what < due.length; what++) {
            is("status(" + what + ")", x.status(what), due[what]);
        }
        for (int what = 11; what <= 16; what++) {
            is("status(" + what + ")", x.status(what), 0);
        }
        for (int p = 0; p < 32; p++) {
            is("plate", x.plate(p / 2, p % 2), 0);
            is("read", x.read(p / 2, p % 2), 0);
        }
        is("isSound()", x.isSound(), false);
        is("clear()", x.clear(), 0);
        is("states()", x.states(), 1);
        for (int kind = 0; kind < 3; kind++) {
            for (int f = 0; f < 4; f++) {
                is("spare off", x.spare(kind, f, false), false);
            }
        }
        OrderedDisc other = new OrderedDisc();
        other.write(0, 1, 1);
        other.addSure();
        is("another object's QUEUE", x.status(0), 0);
        is("another object's SCRIPT", x.status(4), 0);
    }

    private static void p2() {
        OrderedDisc x = new OrderedDisc();
        is("write(0, 5, 6)", x.write(0, 5, 6), 1);
        is("write(15, MIN, MAX)", x.write(15, MIN, MAX), 2);
        x.fence();
        is("write(0, 7, 8)", x.write(0, 7, 8), 4);
        is("write(-1, 0, 0)", x.write(-1, 0, 0), -1);
        is("write(16, 0, 0)", x.write(16, 0, 0), -1);
        is("write(MIN, 0, 0)", x.write(MIN, 0, 0), -1);
        is("write(MAX, 0, 0)", x.write(MAX, 0, 0), -1);
        queueIs(x, "0:5,6 15:" + MIN + "," + MAX + " - 0:7,8");
        Discs.fill(x, 59);
        is("write as the 60th", x.write(1, 1, 1), 60);
        is("write as the 61st", x.write(2, 1, 1), -6);
        is("write of no SECTOR into a full QUEUE", x.write(16, 1, 1), -1);
        is("read(2, 0)", x.read(2, 0), 0);
        is("status(11)", x.status(11), 5);
        is("status(16)", x.status(16), 1);
        is("status(0)", x.status(0), 60);
    }

    private static void p3() {
        OrderedDisc x = new OrderedDisc();
        for (int i = 1; i <= 60; i++) {
            is("fence()", x.fence(), i);
        }
        is("fence() as the 61st", x.fence(), -6);
        is("status(0)", x.status(0), 60);
        is("status(1)", x.status(1), 0);
        is("status(16)", x.status(16), 1);
    }

    private static void p4() {
        OrderedDisc x = new OrderedDisc();
        is("flush() of nothing", x.flush(), 0);
        x.write(3, 1, 2);
        x.fence();
        x.write(3, 4, 5);
        x.write(4, 9, 9);
        x.fence();
        is("flush()", x.flush(), 3);
        is("plate(3, 0)", x.plate(3, 0), 4);
        is("plate(3, 1)", x.plate(3, 1), 5);
        is("plate(4, 1)", x.plate(4, 1), 9);
        is("status(0)", x.status(0), 0);
        is("status(2)", x.status(2), 0);
        is("status(7)", x.status(7), 0);
        is("flush() again", x.flush(), 0);
        x.write(5, 1, 1);
        is("an EPOCH behind a flush", x.entry(0, 3), 0);
    }

    private static void p5and6() {
        OrderedDisc x = new OrderedDisc();
        x.write(2, 1, -2);
        x.flush();
        x.write(2, 3, 4);
        x.fence();
        x.write(2, 5, 6);
        x.fence();
        is("read(2, 0)", x.read(2, 0), 5);
        is("read(2, 1)", x.read(2, 1), 6);
        is("plate(2, 0)", x.plate(2, 0), 1);
        is("plate(2, 1)", x.plate(2, 1), -2);
        is("read(15, 1)", x.read(15, 1), 0);
        int[][] none = {{-1, 0}, {16, 0}, {0, -1}, {0, 2}, {MAX, 1}, {MIN, 0}, {15, MAX}, {0, MIN}, {1073741824, 0}};
        for (int[] at : none) {
            check.throwsJust("read" + at[0] + "," + at[1], NO_INDEX, () -> x.read(at[0], at[1]));
            check.throwsJust("plate" + at[0] + "," + at[1], NO_INDEX, () -> x.plate(at[0], at[1]));
        }
        is("what is thrown is no refusal", x.status(11), 0);
    }

    private static void p7() {
        OrderedDisc x = new OrderedDisc();
        x.fence();
        x.write(1, 2, 3);
        x.fence();
        x.fence();
        x.write(4, 5, 6);
        x.write(1, 7, 8);
        int[][] due = {{-1, 0, 0, -1}, {1, 2, 3, 0}, {-1, 0, 0, -1}, {-1, 0, 0, -1}, {4, 5, 6, 1}, {1, 7, 8, 1}};
        for (int i = 0; i < due.length; i++) {
            for (int what = 0; what < 4; what++) {
                is("entry(" + i + ", " + what + ")", x.entry(i, what), due[i][what]);
            }
        }
        is("a FENCE's -1 is no refusal", x.status(11), 0);
        is("entry(0, 4)", x.entry(0, 4), -9);
        is("entry(0, -1)", x.entry(0, -1), -9);
        is("entry(6, 0)", x.entry(6, 0), -1);
        is("entry(-1, 0)", x.entry(-1, 0), -1);
        is("entry(6, 4)", x.entry(6, 4), -1);
        is("status(11)", x.status(11), 3);
        x.flush();
        is("entry(0, 0) of an empty QUEUE", x.entry(0, 0), -1);
    }

    private static void p8() {
        OrderedDisc x = new OrderedDisc();
        x.fence();
        is("states() of FENCES alone", x.states(), 1);
        x.write(0, 0, 0);
        is("states() of a WRITE of what was there", x.states(), 1);
        x.write(0, 1, 2);
        is("states()", x.states(), 4);
        x.write(0, 1, 2);
        is("states() with the same WRITE twice", x.states(), 4);
        x.write(0, 1, 3);
        is("states() with a third int", x.states(), 6);
        x.flush();
        x.write(0, 0, 0);
        x.fence();
        x.write(0, 1, 3);
        is("states() that two EPOCHS have in common", x.states(), 4);
        x.flush();
        x.write(1, 1, 0);
        x.fence();
        x.write(2, 1, 0);
        x.fence();
        x.write(3, 1, 0);
        is("states() of three EPOCHS in a row", x.states(), 4);
    }

    private static void p8room() {
        OrderedDisc x = new OrderedDisc();
        for (int s = 0; s < 6; s++) {
            x.write(s, 1, 1);
        }
        is("4096 STATES", x.states(), 4096);
        x.fence();
        x.write(0, 1, 1);
        is("an EPOCH more that changes nothing", x.states(), 4096);
        x.fence();
        x.write(15, 0, 1);
        is("4097 STATES", x.states(), -6);
        is("fall(0)", x.fall(0), -6);
        is("fall(-1)", x.fall(-1), -6);
        check.throwsJust("state(0, 0, 0)", NO_INDEX, () -> x.state(0, 0, 0));
        is("status(16)", x.status(16), 3);
        is("status(0)", x.status(0), 10);
        x.flush();
        is("states() behind a flush", x.states(), 1);
        for (int s = 0; s < 16; s++) {
            x.write(s, 100 + s, -s - 1);
        }
        is("2 to the 32nd", x.states(), -6);
    }

    private static void statesAre(OrderedDisc x, int[] parts, int[][] due) {
        is("states()", x.states(), due.length);
        // Backwards first, so that numbers are found both one by one and from afar.
        for (int i = due.length - 1; i >= 0; i--) {
            for (int j = 0; j < parts.length; j++) {
                is("state(" + i + ") of PART " + parts[j], x.state(i, parts[j] / 2, parts[j] % 2), due[i][j]);
            }
        }
        for (int i = 0; i < due.length; i++) {
            for (int j = 0; j < parts.length; j++) {
                is("state(" + i + ") of PART " + parts[j], x.state(i, parts[j] / 2, parts[j] % 2), due[i][j]);
            }
        }
    }

    private static void p9() {
        OrderedDisc x = new OrderedDisc();
        x.write(1, MIN, MAX);
        x.write(0, -1, 0);
        statesAre(x, new int[] {0, 2, 3, 1, 31}, new int[][] {
            {-1, MIN, 0, 0, 0}, {-1, MIN, MAX, 0, 0}, {-1, 0, 0, 0, 0}, {-1, 0, MAX, 0, 0},
            {0, MIN, 0, 0, 0}, {0, MIN, MAX, 0, 0}, {0, 0, 0, 0, 0}, {0, 0, MAX, 0, 0}});
        OrderedDisc y = new OrderedDisc();
        y.write(0, 5, 0);
        y.fence();
        y.write(0, 3, 0);
        y.write(1, 0, 1);
        statesAre(y, new int[] {0, 3}, new int[][] {{0, 0}, {3, 0}, {3, 1}, {5, 0}, {5, 1}});
        int[][] none = {{5, 0, 0}, {-1, 0, 0}, {MAX, 0, 0}, {MIN, 0, 0}, {0, 16, 0}, {0, -1, 0}, {0, 0, 2}, {0, 0, -1}};
        for (int[] at : none) {
            check.throwsJust("state", NO_INDEX, () -> y.state(at[0], at[1], at[2]));
        }
        is("no refusal", y.status(11), 0);
        is("nothing changed", y.status(0), 4);
        y.flush();
        statesAre(y, new int[] {0, 3}, new int[][] {{3, 1}});
    }

    private static void p9wholeRange() {
        OrderedDisc x = new OrderedDisc();
        for (int s = 0; s < 6; s++) {
            x.write(s, 1, 1);
        }
        for (int i = 4095; i >= 0; i -= 113) {
            for (int p = 0; p < 12; p++) {
                is("state(" + i + ")", x.state(i, p / 2, p % 2), i >> (11 - p) & 1);
            }
        }
        check.throwsJust("state(4096, 0, 0)", NO_INDEX, () -> x.state(4096, 0, 0));
        is("fall(4096)", x.fall(4096), -1);
        is("fall(4094)", x.fall(4094), 1);
        is("plate(5, 0)", x.plate(5, 0), 1);
        is("plate(5, 1)", x.plate(5, 1), 0);
    }

    private static void p10() {
        OrderedDisc x = new OrderedDisc();
        x.write(0, 5, 0);
        x.fence();
        x.write(0, 3, 0);
        is("fall(3)", x.fall(3), -1);
        is("fall(-1)", x.fall(-1), -1);
        is("status(7)", x.status(7), 0);
        is("fall(2)", x.fall(2), 1);
        is("plate(0, 0)", x.plate(0, 0), 5);
        is("read(0, 0)", x.read(0, 0), 5);
        is("status(0)", x.status(0), 0);
        is("status(2)", x.status(2), 0);
        is("fall(0) of an empty QUEUE", x.fall(0), 1);
        is("fall(1) of an empty QUEUE", x.fall(1), -1);
        is("plate(0, 0)", x.plate(0, 0), 5);
        is("status(7)", x.status(7), 2);
        is("status(11)", x.status(11), 3);
        is("status(6)", x.status(6), 2);
        OrderedDisc y = Discs.stored(2);
        y.put(0, 7);
        y.fall(y.states() - 1);
        is("the store stays", y.status(3), 2);
    }

    private static void p11() {
        OrderedDisc x = new OrderedDisc();
        is("store(3)", x.store(3), -2);
        is("store(-1)", x.store(-1), -2);
        is("status(3)", x.status(3), -1);
        x.write(9, 1, 1);
        x.flush();
        x.write(8, 1, 1);
        x.addSure();
        x.spare(2, 1, true);
        is("store(0)", x.store(0), 0);
        is("plate(9, 0)", x.plate(9, 0), 0);
        is("read(8, 0)", x.read(8, 0), 0);
        is("status(0)", x.status(0), 0);
        is("status(3)", x.status(3), 0);
        is("store(1)", x.store(1), 4);
        is("digest(0)", x.digest(0), 0);
        is("store(2)", x.store(2), 2);
        is("plate(3, 0)", x.plate(3, 0), 1);
        is("plate(3, 1)", x.plate(3, 1), 38);
        is("read(3, 1)", x.read(3, 1), 38);
        is("the SCRIPT stays", x.status(4), 1);
        is("what is SPARED stays", x.spare(2, 1, true), false);
        is("WRITES ever stay", x.status(6), 2);
        is("store(3) with a store", x.store(3), -2);
        is("status(3)", x.status(3), 2);
        is("status(12)", x.status(12), 3);
        x.put(0, 5);
        is("store(2) again", x.store(2), 2);
        is("status(5)", x.status(5), 1);
    }

    private static void p12() {
        OrderedDisc none = new OrderedDisc();
        is("put(0, 1) without a store", none.put(0, 1), -5);
        is("put(9, 1) without a store", none.put(9, 1), -5);
        is("status(15)", none.status(15), 2);

        OrderedDisc plain = Discs.stored(0);
        is("put(2, -5)", plain.put(2, -5L), 1);
        queueIs(plain, "2:-1,-5");
        is("put(3, 1)", plain.put(3, 1), -1);
        is("put(-1, 1)", plain.put(-1, 1), -1);
        Discs.fill(plain, 60);
        is("put(0, 1) into a full QUEUE", plain.put(0, 1), -6);
        is("put(3, 1) into a full QUEUE", plain.put(3, 1), -1);

        OrderedDisc logged = Discs.stored(1);
        is("put(0, 4294967297)", logged.put(0, TWO_PARTS), 10);
        queueIs(logged, "4:0,1 5:1,-1 6:0,0 - 3:1,1776912065 - 0:1,1 - 3:0,0 -");
        Discs.fill(logged, 51);
        is("put without room", logged.put(0, 3L), -6);
        is("nothing came", logged.status(0), 51);
        is("get(0)", logged.get(0), TWO_PARTS);
        logged.spare(1, 2, true);
        is("put with just room", logged.put(0, 3L), 9);
        is("status(0)", logged.status(0), 60);

        OrderedDisc shadow = Discs.stored(2);
        is("put(1, -1)", shadow.put(1, -1L), 6);
        is("put(2, 4294967299)", shadow.put(2, 4294967299L), 6);
        queueIs(shadow, "4:0,0 5:-1,-1 6:0,0 - 7:2,69 - 0:0,0 1:-1,-1 2:1,3 - 3:3,100 -");
        shadow.spare(2, 0, true);
        shadow.spare(2, 1, true);
        is("put(0, 1) without FENCES", shadow.put(0, 1L), 4);
    }

    private static void p13() {
        OrderedDisc none = new OrderedDisc();
        is("move(0, 0) without a store", none.move(0, 0), -5);

        OrderedDisc plain = Discs.stored(0);
        plain.put(0, TWO_PARTS);
        is("move(0, 2)", plain.move(0, 2), 2);
        queueIs(plain, "0:1,1 2:1,1 0:0,0");
        int[][] wrong = {{0, 0}, {2, 2}, {-1, 0}, {0, -1}, {3, 0}, {0, 3}, {MAX, MIN}};
        for (int[] m : wrong) {
            is("move(" + m[0] + ", " + m[1] + ")", plain.move(m[0], m[1]), -1);
        }
        Discs.fill(plain, 59);
        is("move with room for one of two", plain.move(0, 1), -6);
        is("nothing came", plain.status(0), 59);
        is("move(0, 0) without room", plain.move(0, 0), -1);

        OrderedDisc logged = Discs.stored(1);
        logged.put(1, 77L);
        logged.flush();
        is("move(1, 0)", logged.move(1, 0), 11);
        queueIs(logged, "4:0,0 5:77,1 6:0,0 - 3:2,-740362835 - 0:0,77 1:0,0 - 3:0,0 -");

        OrderedDisc shadow = Discs.stored(2);
        shadow.put(0, 5L);
        shadow.flush();
        is("move(0, 1)", shadow.move(0, 1), 6);
        queueIs(shadow, "0:0,0 1:0,5 2:0,0 - 3:3,100 -");
    }

    private static void p14() {
        OrderedDisc none = new OrderedDisc();
        check.throwsJust("get(0)", NO_STATE, () -> none.get(0));
        check.throwsJust("get(7)", NO_STATE, () -> none.get(7));
        for (int kind = 0; kind < 3; kind++) {
            OrderedDisc x = Discs.stored(kind);
            check.throwsJust("get(3)", NO_INDEX, () -> x.get(3));
            check.throwsJust("get(-1)", NO_INDEX, () -> x.get(-1));
            long[] values = {Long.MIN_VALUE, 0x80000000L, -4294967296L};
            for (int key = 0; key < 3; key++) {
                is("get(" + key + ") at first", x.get(key), 0L);
                x.put(key, values[key]);
            }
            for (int key = 0; key < 3; key++) {
                is("get(" + key + ")", x.get(key), values[key]);
            }
            x.move(1, 0);
            is("get(0) behind move(1, 0)", x.get(0), 0x80000000L);
            is("get(1) behind move(1, 0)", x.get(1), 0L);
            is("get(2) behind move(1, 0)", x.get(2), -4294967296L);
        }
        OrderedDisc bare = Discs.stored(0);
        bare.write(1, 2, 3);
        is("get(1) of what was written by hand", bare.get(1), (2L << 32) + 3);
    }

    private static void p14versions() {
        OrderedDisc x = Discs.stored(2);
        Discs.setPlate(x, new int[][] {{0, 0, 10}, {4, 0, 20}, {3, 5, 162}, {7, 4, 131}});
        is("get(0) with 5 and 4", x.get(0), 10);
        Discs.setPlate(x, new int[][] {{7, 6, 193}});
        is("get(0) with 5 and 6", x.get(0), 20);
        is("status(5)", x.status(5), 6);
        Discs.setPlate(x, new int[][] {{7, 5, 162}});
        is("an odd one in SECTOR 7 is not GOOD", x.status(5), 5);
        Discs.setPlate(x, new int[][] {{3, 6, 193}});
        is("an even one in SECTOR 3 is not GOOD", x.status(5), 0);
        is("get(0) without a VERSION", x.get(0), 0);
        Discs.setPlate(x, new int[][] {{3, -1, -24}, {7, 0, 7}});
        is("none that is not above 0 is GOOD", x.status(5), 0);
        is("a CHANGE without a VERSION", x.put(1, 9), 6);
        queueIs(x, "0:0,0 1:0,9 2:0,0 - 3:1,38 -");
        Discs.setPlate(x, new int[][] {{2, 1, 1}, {3, MAX, 31 * MAX + 7}});
        is("status(5)", x.status(5), MAX);
        x.put(0, 3);
        queueIs(x, "4:0,3 5:0,9 6:1,1 - 7:" + MIN + "," + (31 * MIN + 7) + " -");
        is("status(5) goes no further", x.status(5), MAX);
    }

    /** A LOGGED store with this in SECTORS 3 to 6, risen. */
    private static void risen(int[] parts, boolean sumIsRight, int came, String due) {
        OrderedDisc x = Discs.stored(1);
        int v = parts[0];
        for (int i = 1; i < 7; i++) {
            v = 31 * v + parts[i];
        }
        Discs.setPlate(x, new int[][] {{3, parts[0], 2 * v + (sumIsRight ? 1 : 0)},
            {4, parts[1], parts[2]}, {5, parts[3], parts[4]}, {6, parts[5], parts[6]}});
        is("isSound()", x.isSound(), false);
        is("rise()", x.rise(), came);
        queueIs(x, due);
        is("isSound() behind", x.isSound(), true);
    }

    private static void p15() {
        OrderedDisc none = new OrderedDisc();
        is("rise() without a store", none.rise(), -5);
        risen(new int[] {1, 2, 7, 8, 99, 1, 1}, true, 4, "2:7,8 - 3:0,0 -");
        risen(new int[] {2, 2, 7, 8, 0, 5, 6}, true, 5, "2:7,8 0:5,6 - 3:0,0 -");
        risen(new int[] {2, 1, 7, 8, 1, 5, 6}, true, 5, "1:7,8 1:5,6 - 3:0,0 -");
        risen(new int[] {1, 2, 7, 8, -1, 0, 0}, false, 2, "3:0,0 -");
        risen(new int[] {1, 3, 7, 8, -1, 0, 0}, true, 2, "3:0,0 -");
        risen(new int[] {1, -1, 7, 8, -1, 0, 0}, true, 2, "3:0,0 -");
        risen(new int[] {2, 0, 7, 8, -1, 5, 6}, true, 2, "3:0,0 -");
        risen(new int[] {2, 0, 7, 8, 3, 5, 6}, true, 2, "3:0,0 -");
        risen(new int[] {3, 0, 7, 8, 1, 5, 6}, true, 2, "3:0,0 -");
        risen(new int[] {0, 0, 7, 8, 1, 5, 6}, true, 2, "3:0,0 -");
        risen(new int[] {-1, 0, 7, 8, 1, 5, 6}, true, 2, "3:0,0 -");

        OrderedDisc x = Discs.stored(1);
        is("rise() of a sound store", x.rise(), 0);
        x.fence();
        is("rise() with a FENCE in the QUEUE", x.rise(), -5);
        is("status(15)", x.status(15), 1);
        x.flush();
        Discs.setPlate(x, new int[][] {{3, 1, 0}});
        x.spare(1, 3, true);
        is("rise() with FENCE 3 SPARED", x.rise(), 1);
        is("status(6) has the WRITES of rise()", x.status(6), 2);
        for (int kind = 0; kind < 3; kind += 2) {
            OrderedDisc y = Discs.stored(kind);
            Discs.setPlate(y, new int[][] {{3, 1, 1}, {7, 1, 1}});
            is("rise() of PLAIN and SHADOW", y.rise(), 0);
            y.write(0, 1, 1);
            is("rise() with a QUEUE", y.rise(), -5);
        }
    }

    private static void p16() {
        is("isSound() without a store", new OrderedDisc().isSound(), false);
        OrderedDisc plain = Discs.stored(0);
        plain.write(3, 1, 1);
        is("PLAIN", plain.isSound(), true);
        OrderedDisc logged = Discs.stored(1);
        is("LOGGED", logged.isSound(), true);
        logged.put(0, 1);
        is("LOGGED, as READ", logged.isSound(), true);
        logged.write(3, 0, 1);
        is("LOGGED with (0, 1)", logged.isSound(), false);
        logged.write(3, 1, 0);
        is("LOGGED with (1, 0)", logged.isSound(), false);
        logged.write(3, 0, 0);
        is("LOGGED with (0, 0)", logged.isSound(), true);
        OrderedDisc shadow = Discs.stored(2);
        is("SHADOW", shadow.isSound(), true);
        shadow.write(3, 1, 39);
        is("SHADOW without a GOOD one", shadow.isSound(), false);
        shadow.write(7, 2, 69);
        is("SHADOW with the other one", shadow.isSound(), true);
    }

    private static void p17to20() {
        OrderedDisc x = new OrderedDisc();
        is("addPut(0, 5)", x.addPut(0, 5), 1);
        is("addMove(0, 2)", x.addMove(0, 2), 2);
        is("addSure()", x.addSure(), 3);
        int[] noKeys = {-1, 3, MIN, MAX};
        for (int key : noKeys) {
            is("addPut", x.addPut(key, 5), -1);
            is("addMove", x.addMove(key, 0), -1);
            is("addMove", x.addMove(0, key), -1);
        }
        is("addMove(1, 1)", x.addMove(1, 1), -1);
        is("status(4)", x.status(4), 3);
        is("status(11)", x.status(11), 13);
        for (int i = 4; i <= 8; i++) {
            is("addSure()", x.addSure(), i);
        }
        is("addPut as the ninth", x.addPut(0, 1), -6);
        is("addMove as the ninth", x.addMove(0, 1), -6);
        is("addSure as the ninth", x.addSure(), -6);
        is("addPut of no KEY as the ninth", x.addPut(3, 1), -1);
        is("addMove of no KEY as the ninth", x.addMove(3, 1), -1);
        is("status(16)", x.status(16), 3);
        is("clear()", x.clear(), 8);
        is("clear() again", x.clear(), 0);
        is("status(4)", x.status(4), 0);
        is("addPut(2, 1)", x.addPut(2, 1), 1);
        is("the QUEUE is another thing", x.status(0), 0);
    }

    private static void goneIs(OrderedDisc x, int... due) {
        for (int what = 0; what < due.length; what++) {
            is("gone(" + what + ")", x.gone(what), due[what]);
        }
    }

    private static void badIs(OrderedDisc x, int i, int... due) {
        for (int what = 0; what < due.length; what++) {
            is("bad(" + i + ", " + what + ")", x.bad(i, what), due[what]);
        }
    }

    private static void p21() {
        OrderedDisc x = new OrderedDisc();
        is("through(-1)", x.through(-1), -2);
        is("through(3)", x.through(3), -2);
        for (int kind = 0; kind < 3; kind++) {
            is("through of no SCRIPT", x.through(kind), 0);
            goneIs(x, 1, 1, 0, 0, 0, 0, 1);
        }
        x.addPut(0, 5);
        is("through(0) of what no fall can tear", x.through(0), 0);
        goneIs(x, 2, 3, 0, 1, 0, 0, 2);
        x.clear();
        x.addPut(0, TWO_PARTS);
        x.store(0);
        is("through(0)", x.through(0), 2);
        goneIs(x, 2, 5, 2, 1, 0, 0, 4);
        badIs(x, 0, 1, 1, 1, 0, 0, 1, 0, 0, 0, 0);
        badIs(x, 1, 1, 2, 1, 0, 1, 0, 0, 0, 0, 0);
        is("through(1)", x.through(1), 0);
        is("through(2)", x.through(2), 0);
        is("the object's own disc stays", x.status(0), 0);
        is("its WRITES ever, too", x.status(6), 0);
        is("its store, too", x.status(3), 0);
        is("status(12)", x.status(12), 2);
    }

    private static void p21rightOnes() {
        OrderedDisc soon = new OrderedDisc();
        soon.addPut(0, TWO_PARTS);
        soon.addPut(0, 1);
        is("an ACT that is not begun makes nothing RIGHT", soon.through(0), 2 + 1);
        badIs(soon, 0, 1, 1, 1, 0, 0, 1, 0, 0, 0, 0);
        badIs(soon, 2, 2, 2, 2, 0, 1, 0, 0, 0, 0, 0);
        OrderedDisc late = new OrderedDisc();
        late.addPut(0, 1);
        late.addPut(0, 0);
        late.addSure();
        late.addPut(0, TWO_PARTS);
        is("an ACT ahead of a SURE makes nothing RIGHT", late.through(0), 2);
        badIs(late, 0, 4, 1, 4, 3, 0, 1, 0, 0, 0, 0);
        goneIs(late, 5, 1 + 2 + 2 + 1 + 4, 2, 3, 0, 1, 4);
        OrderedDisc without = new OrderedDisc();
        without.addPut(0, 1);
        without.addPut(0, 0);
        without.addPut(0, TWO_PARTS);
        is("without a SURE it does", without.through(0), 1);
        badIs(without, 0, 3, 2, 3, 0, 1, 0, 0, 0, 0, 0);
        OrderedDisc sure = new OrderedDisc();
        sure.addSure();
        sure.addSure();
        is("SURE alone", sure.through(2), 0);
        goneIs(sure, 3, 3, 0, 0, 0, 2, 1);
    }

    private static void p21room() {
        OrderedDisc x = new OrderedDisc();
        x.addPut(0, 1);
        x.through(0);
        for (int i = 1; i < 6; i++) {
            x.addPut(i % 3, i);
        }
        is("60 ENTRIES", x.through(1), 0);
        goneIs(x, 37, x.gone(1), 0, 36, 24, 0, x.gone(6));
        x.clear();
        for (int i = 0; i < 5; i++) {
            x.addPut(0, i);
        }
        x.addMove(0, 1);
        is("61 ENTRIES", x.through(1), -6);
        goneIs(x, 37, x.gone(1), 0, 36, 24, 0, x.gone(6));
        x.spare(1, 3, true);
        is("fewer ENTRIES", x.through(1) >= 0, true);
        is("gone(4)", x.gone(4), 18);
        x.clear();
        for (int i = 1; i <= 8; i++) {
            x.addPut(i % 3, i * 0x1234567890ABL);
        }
        x.spare(2, 0, true);
        x.spare(2, 1, true);
        is("too many STATES", x.through(2), -6);
        is("gone(4) of the one ahead", x.gone(4), 18);
        is("status(16)", x.status(16), 2);
        x.clear();
        for (int i = 0; i < 7; i++) {
            x.addPut(0, i);
        }
        x.addSure();
        is("a SURE that comes too late", x.through(1), -6);
        x.clear();
        for (int i = 0; i < 4; i++) {
            x.addPut(0, i);
        }
        x.addSure();
        for (int i = 0; i < 3; i++) {
            x.addPut(0, i);
        }
        x.spare(1, 3, false);
        is("a SURE makes room", x.through(1), 0);
        is("gone(4)", x.gone(4), 28);
    }

    private static void p21mostStates() {
        OrderedDisc x = new OrderedDisc();
        Oracle naive = new Oracle();
        x.spare(2, 0, true);
        x.spare(2, 1, true);
        naive.spare(2, 0, true);
        naive.spare(2, 1, true);
        x.addPut(2, 7 * TWO_PARTS);
        naive.addPut(2, 7 * TWO_PARTS);
        x.addSure();
        naive.addSure();
        x.addPut(1, 2 * TWO_PARTS);
        naive.addPut(1, 2 * TWO_PARTS);
        x.addPut(2, 4 * TWO_PARTS);
        naive.addPut(2, 4 * TWO_PARTS);
        is("just 4096 STATES at a MOMENT", x.through(2), naive.through(2));
        // 1, then 1 1 4 16 by the first PUT, 1 by SURE, 1 4 16 64 and 64 256 1024 4096 by the others.
        goneIs(x, 14, 5549, naive.gone(2), 12, 0, 1, 4096);
        x.addPut(0, TWO_PARTS);
        is("more", x.through(2), -6);
        is("gone(1) of the one ahead", x.gone(1), 5549);
    }

    private static void p22and23() {
        OrderedDisc x = new OrderedDisc();
        goneIs(x, 0, 0, 0, 0, 0, 0, 0);
        is("gone(7)", x.gone(7), -9);
        is("gone(-1)", x.gone(-1), -9);
        is("bad(0, 0) without a through()", x.bad(0, 0), -1);
        is("bad(0, 10) without a through()", x.bad(0, 10), -1);
        x.addPut(0, TWO_PARTS);
        x.addPut(1, 2 * TWO_PARTS);
        x.addPut(2, 3 * TWO_PARTS);
        // Of 4, 16 and 64 STATES as many are RIGHT as there are ACTS and one.
        is("through(0)", x.through(0), 2 + 13 + 60);
        is("gone(2)", x.gone(2), 75);
        is("bad(49, 0)", x.bad(49, 0), 3);
        is("bad(50, 0)", x.bad(50, 0), -1);
        is("bad(-1, 0)", x.bad(-1, 0), -1);
        is("bad(0, 10)", x.bad(0, 10), -9);
        is("bad(0, -1)", x.bad(0, -1), -9);
        // The last of MOMENT 1 is state 2, the first of MOMENT 2 is state 1: KEY 1 has LOW alone.
        badIs(x, 2, 2, 1, 2, 0, 0, 0, 0, 2, 0, 0);
        // 15 are of MOMENTS 1 and 2, so it is the 35th of MOMENT 3, and STATE 0 ahead of it is RIGHT.
        badIs(x, 49, 3, 35, 3, 0, 1, 0, 0, 0, 3, 3);
        is("status(11)", x.status(11), 4);
        is("through(5)", x.through(5), -2);
        is("a refused one changes nothing", x.bad(49, 1), 35);
        x.clear();
        is("nor does clear()", x.gone(2), 75);
        is("through(0)", x.through(0), 0);
        is("bad(0, 0)", x.bad(0, 0), -1);
    }

    private static void p24() {
        OrderedDisc x = new OrderedDisc();
        int[][] none = {{0, 0}, {1, 4}, {1, -1}, {2, 2}, {2, -1}, {3, 0}, {-1, 0}, {MAX, MAX}, {1, 32}, {2, 33}};
        for (int[] n : none) {
            is("spare of none", x.spare(n[0], n[1], true), false);
            is("spare of none", x.spare(n[0], n[1], false), false);
        }
        for (int kind = 1; kind < 3; kind++) {
            for (int f = 0; f < (kind == 1 ? 4 : 2); f++) {
                is("spare off", x.spare(kind, f, false), false);
                is("spare on", x.spare(kind, f, true), true);
                is("spare on again", x.spare(kind, f, true), false);
                is("spare off", x.spare(kind, f, false), true);
                is("spare off again", x.spare(kind, f, false), false);
            }
        }
        is("false is no refusal", x.status(11) + x.status(12), 0);
        x.store(1);
        x.spare(1, 1, true);
        x.spare(2, 0, true);
        x.put(0, 0);
        queueIs(x, "4:0,0 5:0,-1 6:0,0 - 3:1,1775005441 0:0,0 - 3:0,0 -");
        x.spare(1, 1, false);
        is("put(0, 0)", x.put(0, 0), 10);
    }

    private static void p25() {
        OrderedDisc x = new OrderedDisc();
        is("least(-1)", x.least(-1), -2);
        is("least(3)", x.least(3), -2);
        for (int kind = 0; kind < 3; kind++) {
            is("least of no SCRIPT", x.least(kind), 0);
        }
        x.addPut(0, 5);
        x.addPut(1, 4294967299L);
        x.addMove(0, 2);
        x.addSure();
        x.addPut(2, -1L);
        int bad = x.through(0);
        is("least(0)", x.least(0), -5);
        is("least(1)", x.least(1), 6);
        is("least(2)", x.least(2), 3);
        is("gone(2) stays", x.gone(2), bad);
        is("bad(0, 0) stays", x.bad(0, 0), 2);
        x.spare(1, 1, true);
        x.spare(1, 2, true);
        is("least(1) with FENCES that are SPARED now", x.least(1), 6);
        is("which stay so", x.spare(1, 1, true), false);
        is("and others not", x.spare(1, 0, false), false);
        x.clear();
        for (int i = 0; i < 7; i++) {
            x.addPut(0, i);
        }
        x.spare(1, 0, true);
        x.spare(1, 3, true);
        is("through(1) with few FENCES", x.through(1) >= 0, true);
        is("least(1) without room for all FENCES", x.least(1), -6);
        is("status(12)", x.status(12), 2);
        is("status(15)", x.status(15), 1);
        is("status(16)", x.status(16), 1);
    }

    private static void p26() {
        OrderedDisc x = new OrderedDisc();
        x.write(14, 0, 1);
        x.write(15, 0, 7);
        is("digest(0)", x.digest(0), 0);
        is("digest(1)", x.digest(1), 31 * 31 + 7);
        x.flush();
        is("digest(0)", x.digest(0), 31 * 31 + 7);
        x.write(0, -3, 0);
        int power = -3;
        for (int i = 0; i < 31; i++) {
            power *= 31;
        }
        is("digest(1) goes round", x.digest(1), power + 31 * 31 + 7);
        is("digest(2)", x.digest(2), -9);
        is("digest(-1)", x.digest(-1), -9);
    }

    private static void p27() {
        OrderedDisc x = new OrderedDisc();
        x.write(0, 1, 1);
        x.fence();
        x.fence();
        x.write(0, 2, 2);
        x.write(1, 1, 1);
        x.fence();
        int[] due = {6, 3, 2, -1, 0, 0, 3, 0};
        for (int what = 0; what < due.length; what++) {
            is("status(" + what + ")", x.status(what), due[what]);
        }
        int[] others = {-1, 8, 9, 10, 17, 18, MIN, MAX};
        for (int what : others) {
            is("status(" + what + ")", x.status(what), -9);
        }
        x.fall(99);
        x.store(9);
        x.rise();
        Discs.fill(x, 60);
        x.fence();
        int[] refusals = {1, 1, 0, 0, 1, 1};
        for (int i = 0; i < 6; i++) {
            is("status(" + (11 + i) + ")", x.status(11 + i), refusals[i]);
        }
        x.status(99);
        x.digest(99);
        x.gone(99);
        x.entry(0, 99);
        for (int i = 0; i < 6; i++) {
            is("-9 is no refusal", x.status(11 + i), refusals[i]);
        }
        x.store(1);
        is("VERSION of LOGGED", x.status(5), 0);
        x.write(3, 1, 38);
        is("VERSION of LOGGED", x.status(5), 0);
        x.store(2);
        x.put(0, 1);
        is("VERSION as READ", x.status(5), 2);
        is("WRITES ever", x.status(6), 3 + 1 + 4);
        x.fall(0);
        is("FALLS", x.status(7), 1);
    }

    public static void main(String[] args) {
        check.at("promise 1");
        p1();
        check.at("promise 2");
        p2();
        check.at("promise 3");
        p3();
        check.at("promise 4");
        p4();
        check.at("promises 5 and 6");
        p5and6();
        check.at("promise 7");
        p7();
        check.at("promise 8");
        p8();
        p8room();
        check.at("promise 9");
        p9();
        p9wholeRange();
        check.at("promise 10");
        p10();
        check.at("promise 11");
        p11();
        check.at("promise 12");
        p12();
        check.at("promise 13");
        p13();
        check.at("promise 14");
        p14();
        p14versions();
        check.at("promise 15");
        p15();
        check.at("promise 16");
        p16();
        check.at("promises 17 to 20");
        p17to20();
        check.at("promise 21");
        p21();
        p21rightOnes();
        p21room();
        p21mostStates();
        check.at("promises 22 and 23");
        p22and23();
        check.at("promise 24");
        p24();
        check.at("promise 25");
        p25();
        check.at("promise 26");
        p26();
        check.at("promise 27");
        p27();
        check.finish();
    }
}
