import java.math.BigInteger;

/** Boundary cases of the stores of the three KINDS, each alone: promises 11 to 16. */
public final class StoreEdgesTest {
    private static final Class<IndexOutOfBoundsException> NO_INDEX = IndexOutOfBoundsException.class;
    private static final Class<IllegalStateException> NO_STATE = IllegalStateException.class;
    private static final int MIN = Integer.MIN_VALUE;
    private static final int MAX = Integer.MAX_VALUE;
    private static final int PLAIN = 0;
    private static final int LOGGED = 1;
    private static final int SHADOW = 2;
    private static final String[] NAMES = {"PLAIN", "LOGGED", "SHADOW"};
    private static final int[] NO_KINDS = {-1, 3, MIN, MAX};
    private static final int[] NO_KEYS = {-1, 3, MIN, MAX};

    private static final Check check = new Check();

    private static void is(String call, long got, long due) {
        check.is(call, got, due);
    }

    private static void is(String call, boolean got, boolean due) {
        check.is(call, got, due);
    }

    private static void queueIs(OrderedDisc x, String due) {
        check.isText("the QUEUE", Discs.queue(x), due);
    }

    /** The SUM by numbers that have no end, of which an int has the lower 32 bits. */
    private static int sum(int many, int... six) {
        BigInteger v = BigInteger.valueOf(many);
        for (int part : six) {
            v = v.multiply(BigInteger.valueOf(31)).add(BigInteger.valueOf(part));
        }
        return v.multiply(BigInteger.TWO).add(BigInteger.ONE).intValue();
    }

    private static void stores() {
        for (int kind : NO_KINDS) {
            check.edge("11: -2, there is no KIND " + kind, () -> {
                OrderedDisc x = new OrderedDisc();
                x.write(5, 1, 1);
                is("store", x.store(kind), -2);
                is("status(12)", x.status(12), 1);
                is("status(3)", x.status(3), -1);
                is("status(0)", x.status(0), 1);
            });
        }
        check.edge("11: -2, the store that was there stays", () -> {
            OrderedDisc x = Discs.stored(SHADOW);
            x.put(0, 5L);
            is("store(3)", x.store(3), -2);
            is("status(3)", x.status(3), SHADOW);
            is("get(0)", x.get(0), 5L);
            is("status(0)", x.status(0), 6);
        });
        int[] fences = {0, 4, 2};
        for (int kind = 0; kind < 3; kind++) {
            int k = kind;
            check.edge("11: how many FENCES a CHANGE of " + NAMES[k] + " has", () -> {
                OrderedDisc x = new OrderedDisc();
                is("store(" + k + ")", x.store(k), fences[k]);
                is("status(3)", x.status(3), k);
            });
            check.edge("11: .. though all of them are SPARED: " + NAMES[k], () -> {
                OrderedDisc x = new OrderedDisc();
                for (int f = 0; f < 4; f++) {
                    x.spare(k, f, true);
                }
                is("store(" + k + ")", x.store(k), fences[k]);
            });
            check.edge("11: FORMAT of " + NAMES[k] + ": the PLATE", () -> {
                OrderedDisc x = new OrderedDisc();
                for (int s = 0; s < 16; s++) {
                    x.write(s, s + 1, -s);
                }
                x.flush();
                x.store(k);
                for (int p = 0; p < 32; p++) {
                    int due = k != SHADOW ? 0 : p == 6 ? 1 : p == 7 ? 38 : 0;
                    is("plate(" + p / 2 + ", " + p % 2 + ")", x.plate(p / 2, p % 2), due);
                    is("read(" + p / 2 + ", " + p % 2 + ")", x.read(p / 2, p % 2), due);
                }
            });
            check.edge("11: FORMAT of " + NAMES[k] + ": a full QUEUE is empty", () -> {
                OrderedDisc x = new OrderedDisc();
                x.write(3, 4, 5);
                Discs.fill(x, 60);
                x.store(k);
                is("status(0)", x.status(0), 0);
                is("status(1)", x.status(1), 0);
                is("status(2)", x.status(2), 0);
                is("states()", x.states(), 1);
                is("read(3, 0)", x.read(3, 0), k == SHADOW ? 1 : 0);
            });
            check.edge("11: KEYS of " + NAMES[k] + " are 0 at first", () -> {
                OrderedDisc x = Discs.stored(k);
                for (int key = 0; key < 3; key++) {
                    is("get(" + key + ")", x.get(key), 0L);
                }
            });
        }
        check.edge("11: PLAIN behind SHADOW has no ROOT", () -> {
            OrderedDisc x = Discs.stored(SHADOW);
            x.store(PLAIN);
            is("plate(3, 0)", x.plate(3, 0), 0);
            is("plate(3, 1)", x.plate(3, 1), 0);
        });
    }

    private static void puts() {
        check.edge("12: -5 no store", () -> {
            OrderedDisc x = new OrderedDisc();
            is("put(0, 1)", x.put(0, 1L), -5);
            is("status(15)", x.status(15), 1);
            is("status(0)", x.status(0), 0);
        });
        check.edge("12: -5 is told ahead of -1 and -6", () -> {
            OrderedDisc x = new OrderedDisc();
            Discs.fill(x, 60);
            is("put(3, 1)", x.put(3, 1L), -5);
            is("status(11)", x.status(11), 0);
            is("status(16)", x.status(16), 0);
        });
        int[] comes = {1, 10, 6};
        for (int kind = 0; kind < 3; kind++) {
            int k = kind;
            for (int key : NO_KEYS) {
                check.edge("12: -1, there is no KEY " + key + " of " + NAMES[k], () -> {
                    OrderedDisc x = Discs.stored(k);
                    is("put", x.put(key, 1L), -1);
                    is("status(11)", x.status(11), 1);
                    is("status(0)", x.status(0), 0);
                });
            }
            check.edge("12: KEY 0 and KEY 2 are the first and the last one of " + NAMES[k], () -> {
                OrderedDisc x = Discs.stored(k);
                is("put(0, 7)", x.put(0, 7L), comes[k]);
                is("put(2, 9)", x.put(2, 9L), comes[k]);
                is("get(0)", x.get(0), 7L);
                is("get(1)", x.get(1), 0L);
                is("get(2)", x.get(2), 9L);
            });
            check.edge("12: just room for a PUT of " + NAMES[k], () -> {
                OrderedDisc x = Discs.stored(k);
                Discs.fill(x, 60 - comes[k]);
                is("put(0, 7)", x.put(0, 7L), comes[k]);
                is("status(0)", x.status(0), 60);
                is("get(0)", x.get(0), 7L);
            });
            check.edge("12: -6, a PUT of " + NAMES[k] + " lacks room for one ENTRY, none came", () -> {
                OrderedDisc x = Discs.stored(k);
                Discs.fill(x, 61 - comes[k]);
                is("put(0, 7)", x.put(0, 7L), -6);
                is("status(16)", x.status(16), 1);
                is("status(0)", x.status(0), 61 - comes[k]);
                is("status(1)", x.status(1), 0);
                is("status(6)", x.status(6), 0);
                is("get(0)", x.get(0), 0L);
                is("digest(1)", x.digest(1), x.digest(0));
            });
            check.edge("12: -1 is told ahead of -6: " + NAMES[k], () -> {
                OrderedDisc x = Discs.stored(k);
                Discs.fill(x, 60);
                is("put(3, 7)", x.put(3, 7L), -1);
                is("status(16)", x.status(16), 0);
            });
            check.edge("12: FENCES that are SPARED need no room: " + NAMES[k], () -> {
                int without = k == PLAIN ? 1 : k == LOGGED ? 6 : 4;
                OrderedDisc x = Discs.stored(k);
                for (int f = 0; f < 4; f++) {
                    x.spare(k, f, true);
                }
                Discs.fill(x, 60 - without);
                is("put(1, 7)", x.put(1, 7L), without);
                is("status(0)", x.status(0), 60);
                is("put(1, 8)", x.put(1, 8L), -6);
            });
        }
    }

    private static void longs() {
        long[] values = {0L, -1L, Long.MIN_VALUE, Long.MAX_VALUE, 0xFFFFFFFFL, 0x80000000L, 0x7FFFFFFFL, 1L << 32, -1L << 32};
        int[] highs = {0, -1, MIN, MAX, 0, 0, 0, 1, -1};
        int[] lows = {0, -1, 0, -1, -1, MIN, MAX, 0, 0};
        for (int i = 0; i < values.length; i++) {
            long v = values[i];
            int high = highs[i];
            int low = lows[i];
            check.edge("12: HIGH and LOW of " + v + " in PLAIN", () -> {
                OrderedDisc x = Discs.stored(PLAIN);
                x.put(1, v);
                queueIs(x, "1:" + high + "," + low);
                is("get(1)", x.get(1), v);
            });
            check.edge("12: HIGH, LOW and SUM of " + v + " in LOGGED", () -> {
                OrderedDisc x = Discs.stored(LOGGED);
                x.put(2, v);
                queueIs(x, "4:2," + high + " 5:" + low + ",-1 6:0,0 - 3:1," + sum(1, 2, high, low, -1, 0, 0)
                    + " - 2:" + high + "," + low + " - 3:0,0 -");
                is("get(2)", x.get(2), v);
            });
            check.edge("12: HIGH and LOW of " + v + " in SHADOW", () -> {
                OrderedDisc x = Discs.stored(SHADOW);
                x.put(2, v);
                queueIs(x, "4:0,0 5:0,0 6:" + high + "," + low + " - 7:2,69 -");
                is("get(2)", x.get(2), v);
            });
        }
    }

    private static void moves() {
        check.edge("13: -5 no store, told ahead of -1 and -6", () -> {
            OrderedDisc x = new OrderedDisc();
            is("move(0, 1)", x.move(0, 1), -5);
            Discs.fill(x, 60);
            is("move(0, 0)", x.move(0, 0), -5);
            is("status(15)", x.status(15), 2);
            is("status(11)", x.status(11), 0);
            is("status(16)", x.status(16), 0);
        });
        int[] comes = {2, 11, 6};
        for (int kind = 0; kind < 3; kind++) {
            int k = kind;
            for (int key : NO_KEYS) {
                check.edge("13: -1, the one of both is " + key + ": " + NAMES[k], () -> {
                    OrderedDisc x = Discs.stored(k);
                    is("move", x.move(key, 1), -1);
                    is("status(11)", x.status(11), 1);
                    is("status(0)", x.status(0), 0);
                });
                check.edge("13: -1, the other one is " + key + ": " + NAMES[k], () -> {
                    OrderedDisc x = Discs.stored(k);
                    is("move", x.move(1, key), -1);
                    is("status(11)", x.status(11), 1);
                    is("status(0)", x.status(0), 0);
                });
            }
            check.edge("13: -1, they are one: " + NAMES[k], () -> {
                OrderedDisc x = Discs.stored(k);
                for (int key = 0; key < 3; key++) {
                    is("move(" + key + ", " + key + ")", x.move(key, key), -1);
                }
                is("status(11)", x.status(11), 3);
                is("status(0)", x.status(0), 0);
            });
            check.edge("13: from the first KEY to the last one and back: " + NAMES[k], () -> {
                OrderedDisc x = Discs.stored(k);
                x.put(0, -7L);
                is("move(0, 2)", x.move(0, 2), comes[k]);
                is("get(0)", x.get(0), 0L);
                is("get(2)", x.get(2), -7L);
                is("move(2, 0)", x.move(2, 0), comes[k]);
                is("get(0)", x.get(0), -7L);
                is("get(2)", x.get(2), 0L);
            });
            check.edge("13: of a KEY that is 0 the other one becomes 0: " + NAMES[k], () -> {
                OrderedDisc x = Discs.stored(k);
                x.put(1, 5L);
                is("move(0, 1)", x.move(0, 1), comes[k]);
                is("get(0)", x.get(0), 0L);
                is("get(1)", x.get(1), 0L);
            });
            check.edge("13: just room for a MOVE of " + NAMES[k], () -> {
                OrderedDisc x = Discs.stored(k);
                Discs.fill(x, 60 - comes[k]);
                is("move(0, 1)", x.move(0, 1), comes[k]);
                is("status(0)", x.status(0), 60);
            });
            check.edge("13: -6, a MOVE of " + NAMES[k] + " lacks room for one ENTRY, none came", () -> {
                OrderedDisc x = Discs.stored(k);
                x.put(0, 5L);
                x.flush();
                int before = x.status(6);
                Discs.fill(x, 61 - comes[k]);
                is("move(0, 1)", x.move(0, 1), -6);
                is("status(16)", x.status(16), 1);
                is("status(0)", x.status(0), 61 - comes[k]);
                is("status(6)", x.status(6), before);
                is("get(0)", x.get(0), 5L);
                is("get(1)", x.get(1), 0L);
            });
            check.edge("13: -1 is told ahead of -6: " + NAMES[k], () -> {
                OrderedDisc x = Discs.stored(k);
                Discs.fill(x, 60);
                is("move(1, 1)", x.move(1, 1), -1);
                is("move(0, 3)", x.move(0, 3), -1);
                is("status(16)", x.status(16), 0);
            });
        }
        check.edge("13: l is the first of the two: PLAIN", () -> {
            OrderedDisc x = Discs.stored(PLAIN);
            Discs.setPlate(x, new int[][] {{0, 7, 8}});
            x.move(0, 2);
            queueIs(x, "2:7,8 0:0,0");
        });
        check.edge("13: l is the first of the two, and a SUM that goes round: LOGGED", () -> {
            OrderedDisc x = Discs.stored(LOGGED);
            Discs.setPlate(x, new int[][] {{0, MAX, MIN}});
            x.move(0, 2);
            queueIs(x, "4:2," + MAX + " 5:" + MIN + ",0 6:0,0 - 3:2," + sum(2, 2, MAX, MIN, 0, 0, 0)
                + " - 2:" + MAX + "," + MIN + " 0:0,0 - 3:0,0 -");
        });
        check.edge("13: all three KEYS by numbers: SHADOW", () -> {
            OrderedDisc x = Discs.stored(SHADOW);
            Discs.setPlate(x, new int[][] {{0, 7, 8}, {1, 5, 6}});
            x.move(0, 2);
            queueIs(x, "4:0,0 5:5,6 6:7,8 - 7:2,69 -");
        });
    }

    private static void gets() {
        check.edge("14: throws IllegalStateException without a store", () -> {
            OrderedDisc x = new OrderedDisc();
            check.throwsJust("get(0)", NO_STATE, () -> x.get(0));
            is("status(15)", x.status(15), 0);
        });
        check.edge("14: .. also if there is no such KEY", () -> {
            OrderedDisc x = new OrderedDisc();
            check.throwsJust("get(3)", NO_STATE, () -> x.get(3));
            check.throwsJust("get(-1)", NO_STATE, () -> x.get(-1));
        });
        for (int kind = 0; kind < 3; kind++) {
            int k = kind;
            for (int key : NO_KEYS) {
                check.edge("14: throws, there is no KEY " + key + " of " + NAMES[k], () -> {
                    OrderedDisc x = Discs.stored(k);
                    check.throwsJust("get", NO_INDEX, () -> x.get(key));
                    is("status(11)", x.status(11), 0);
                });
            }
            check.edge("14: as READ, not as on the PLATE: " + NAMES[k], () -> {
                OrderedDisc x = Discs.stored(k);
                x.put(1, 6L);
                x.flush();
                x.put(1, 9L);
                is("get(1)", x.get(1), 9L);
            });
        }
        check.edge("14: a negative LOW takes nothing from HIGH", () -> {
            OrderedDisc x = Discs.stored(PLAIN);
            x.write(0, 5, -1);
            is("get(0)", x.get(0), 5L * 4294967296L + 4294967295L);
        });
        check.edge("14: with VERSION 0 all KEYS are 0, whatever is in their SECTORS", () -> {
            OrderedDisc x = Discs.stored(SHADOW);
            Discs.setPlate(x, new int[][] {{0, 1, 1}, {4, 2, 2}, {3, 0, 0}});
            is("status(5)", x.status(5), 0);
            is("get(0)", x.get(0), 0L);
        });
    }

    /** The VERSION of a SHADOW store whose ROOTS are these. */
    private static void versionIs(String sentence, int[] odd, int[] even, int due) {
        check.edge(sentence, () -> {
            OrderedDisc x = Discs.stored(SHADOW);
            Discs.setPlate(x, new int[][] {{3, odd[0], odd[1]}, {7, even[0], even[1]}, {0, 0, 1}, {4, 0, 2}});
            is("status(5)", x.status(5), due);
            is("isSound()", x.isSound(), due > 0);
            is("get(0)", x.get(0), due == 0 ? 0L : due % 2 == 1 ? 1L : 2L);
        });
    }

    private static void versions() {
        int[] none = {0, 0};
        versionIs("14: no ROOT is GOOD: all 0", none, none, 0);
        versionIs("14: a ROOT of 0 is not GOOD", none, new int[] {0, 7}, 0);
        versionIs("14: a ROOT below 0 is not GOOD", new int[] {-1, -24}, new int[] {-2, -55}, 0);
        versionIs("14: the least int is not GOOD", none, new int[] {MIN, MIN + 7}, 0);
        versionIs("14: 1 is the first of SECTOR 3", new int[] {1, 38}, none, 1);
        versionIs("14: 2 is the first of SECTOR 7", none, new int[] {2, 69}, 2);
        versionIs("14: an even one in SECTOR 3 is not GOOD", new int[] {2, 69}, none, 0);
        versionIs("14: an odd one in SECTOR 7 is not GOOD", none, new int[] {1, 38}, 0);
        versionIs("14: a second PART less by one", new int[] {1, 37}, none, 0);
        versionIs("14: a second PART more by one", none, new int[] {2, 70}, 0);
        versionIs("14: the greater one is in SECTOR 3", new int[] {3, 100}, new int[] {2, 69}, 3);
        versionIs("14: the greater one is in SECTOR 7", new int[] {3, 100}, new int[] {4, 131}, 4);
        versionIs("14: the greater one is not GOOD", new int[] {5, 161}, new int[] {4, 131}, 4);
        versionIs("14: the other greater one is not GOOD", new int[] {3, 100}, new int[] {4, 130}, 3);
        // 31 times 69273667 and 7 is 36 above the greatest int.
        versionIs("14: a second PART that goes round", new int[] {69273667, MIN + 36}, none, 69273667);
        versionIs("14: the last one whose second PART does not", new int[] {69273665, 2147483622}, none, 69273665);
        versionIs("14: the greatest int", new int[] {MAX, 2147483624}, new int[] {MAX - 1, 2147483593}, MAX);
        versionIs("14: the greatest even int", none, new int[] {MAX - 1, 2147483593}, MAX - 1);

        check.edge("12: a CHANGE without a VERSION makes VERSION 1 of KEYS that are 0", () -> {
            OrderedDisc x = Discs.stored(SHADOW);
            Discs.setPlate(x, new int[][] {{3, 0, 0}, {1, 6, 6}, {5, 7, 7}});
            is("put(0, 9)", x.put(0, 9L), 6);
            queueIs(x, "0:0,9 1:0,0 2:0,0 - 3:1,38 -");
            is("status(5)", x.status(5), 1);
        });
        check.edge("12: a CHANGE behind the greatest VERSION goes round to the least int, which is even", () -> {
            OrderedDisc x = Discs.stored(SHADOW);
            Discs.setPlate(x, new int[][] {{3, MAX, 2147483624}, {1, 0, 4}});
            is("put(0, 9)", x.put(0, 9L), 6);
            queueIs(x, "4:0,9 5:0,4 6:0,0 - 7:" + MIN + "," + (MIN + 7) + " -");
            is("status(5)", x.status(5), MAX);
            is("get(0)", x.get(0), 0L);
        });
        check.edge("12: a CHANGE behind the VERSION ahead of the greatest one", () -> {
            OrderedDisc x = Discs.stored(SHADOW);
            Discs.setPlate(x, new int[][] {{7, MAX - 1, 2147483593}});
            is("put(0, 9)", x.put(0, 9L), 6);
            queueIs(x, "0:0,9 1:0,0 2:0,0 - 3:" + MAX + ",2147483624 -");
            is("status(5)", x.status(5), MAX);
        });
        check.edge("12: of two CHANGES the second has its KEYS as READ behind the first", () -> {
            OrderedDisc x = Discs.stored(SHADOW);
            x.put(0, 3L);
            x.put(1, 4L);
            queueIs(x, "4:0,3 5:0,0 6:0,0 - 7:2,69 - 0:0,3 1:0,4 2:0,0 - 3:3,100 -");
        });
    }

    private static void risesRefused() {
        check.edge("15: -5 no store", () -> {
            OrderedDisc x = new OrderedDisc();
            is("rise()", x.rise(), -5);
            is("status(15)", x.status(15), 1);
        });
        for (int kind = 0; kind < 3; kind++) {
            int k = kind;
            check.edge("15: -5, a WRITE is in the QUEUE: " + NAMES[k], () -> {
                OrderedDisc x = Discs.stored(k);
                x.write(3, 1, 1);
                is("rise()", x.rise(), -5);
                is("status(15)", x.status(15), 1);
                is("status(0)", x.status(0), 1);
            });
            check.edge("15: -5, one FENCE is in the QUEUE: " + NAMES[k], () -> {
                OrderedDisc x = Discs.stored(k);
                x.fence();
                is("rise()", x.rise(), -5);
                is("status(15)", x.status(15), 1);
                is("status(0)", x.status(0), 1);
            });
            check.edge("15: behind FORMAT nothing is to be done: " + NAMES[k], () -> {
                OrderedDisc x = Discs.stored(k);
                is("rise()", x.rise(), 0);
                is("status(0)", x.status(0), 0);
                is("status(15)", x.status(15), 0);
            });
        }
        for (int kind : new int[] {PLAIN, SHADOW}) {
            check.edge("15: RISING does nothing: " + NAMES[kind], () -> {
                OrderedDisc x = Discs.stored(kind);
                Discs.setPlate(x, new int[][] {{3, 1, sum(1, 0, 0, 5, -1, 0, 0)}, {5, 5, -1}});
                is("rise()", x.rise(), 0);
                is("status(0)", x.status(0), 0);
            });
        }
    }

    /** RISING of a LOGGED store with (many, SUM) in SECTOR 3 and the six in 4 to 6. */
    private static void risesTo(String sentence, int many, int second, int[] six, String due) {
        check.edge("15: " + sentence, () -> {
            OrderedDisc x = Discs.stored(LOGGED);
            Discs.setPlate(x, new int[][] {{4, six[0], six[1]}, {5, six[2], six[3]}, {6, six[4], six[5]}, {3, many, second}});
            is("rise()", x.rise(), due.isEmpty() ? 0 : due.split(" ").length);
            queueIs(x, due);
            is("isSound()", x.isSound(), true);
        });
    }

    private static void rises() {
        String unmark = "3:0,0 -";
        int[] one = {2, 7, 8, -1, 0, 0};
        int[] two = {2, 7, 8, 0, 5, 6};
        risesTo("many is 1", 1, sum(1, one), one, "2:7,8 - 3:0,0 -");
        risesTo("many is 2", 2, sum(2, two), two, "2:7,8 0:5,6 - 3:0,0 -");
        risesTo("many is 1, though l is a KEY", 1, sum(1, two), two, "2:7,8 - 3:0,0 -");
        for (int many : new int[] {0, 3, -1, MIN, MAX}) {
            risesTo("many is " + many + ", with its SUM", many, sum(many, two), two, unmark);
        }
        risesTo("SUM of another many", 1, sum(2, two), two, unmark);
        risesTo("SUM less by one", 2, sum(2, two) - 1, two, unmark);
        risesTo("SUM more by one", 2, sum(2, two) + 1, two, unmark);
        risesTo("SUM is 0", 1, 0, one, unmark);
        risesTo("SECTOR 3 is (0, 0), nothing is done", 0, 0, two, "");
        risesTo("SECTOR 3 is not (0, 0) by its second PART alone", 0, 1, two, unmark);
        risesTo("SECTOR 3 is not (0, 0) by its first PART alone", 7, 0, two, unmark);
        for (int part = 0; part < 6; part++) {
            int[] other = two.clone();
            other[part]++;
            risesTo("SUM of one that has another int " + part, 2, sum(2, other), two, unmark);
        }
        for (int k : new int[] {0, 2}) {
            int[] six = {k, 7, 8, 1, 5, 6};
            risesTo("k is " + k, 2, sum(2, six), six, k + ":7,8 1:5,6 - 3:0,0 -");
        }
        for (int l : new int[] {0, 2}) {
            int[] six = {1, 7, 8, l, 5, 6};
            risesTo("l is " + l, 2, sum(2, six), six, "1:7,8 " + l + ":5,6 - 3:0,0 -");
        }
        for (int none : NO_KEYS) {
            int[] badK = {none, 7, 8, 1, 5, 6};
            risesTo("k is " + none + ", no KEY, many is 1", 1, sum(1, badK), badK, unmark);
            risesTo("k is " + none + ", no KEY, many is 2", 2, sum(2, badK), badK, unmark);
            int[] badL = {1, 7, 8, none, 5, 6};
            risesTo("l is " + none + ", no KEY, many is 2", 2, sum(2, badL), badL, unmark);
            risesTo("l is " + none + ", no KEY, many is 1", 1, sum(1, badL), badL, "1:7,8 - 3:0,0 -");
        }
        int[] same = {1, 7, 8, 1, 5, 6};
        risesTo("k and l are one", 2, sum(2, same), same, "1:7,8 1:5,6 - 3:0,0 -");
        int[] round = {2, MAX, MIN, 0, MIN, MAX};
        risesTo("a SUM that goes round", 2, sum(2, round), round, "2:" + MAX + "," + MIN + " 0:" + MIN + "," + MAX + " - 3:0,0 -");

        check.edge("15: FENCES 2 and 3 are SPARED", () -> {
            OrderedDisc x = Discs.stored(LOGGED);
            Discs.setPlate(x, new int[][] {{4, 2, 7}, {5, 8, -1}, {3, 1, sum(1, one)}});
            x.spare(LOGGED, 2, true);
            x.spare(LOGGED, 3, true);
            is("rise()", x.rise(), 2);
            queueIs(x, "2:7,8 3:0,0");
        });
        String[] withoutOne = {"2:7,8 3:0,0 -", "2:7,8 - 3:0,0"};
        for (int fence : new int[] {2, 3}) {
            check.edge("15: FENCE " + fence + " alone is SPARED", () -> {
                OrderedDisc x = Discs.stored(LOGGED);
                Discs.setPlate(x, new int[][] {{4, 2, 7}, {5, 8, -1}, {3, 1, sum(1, one)}});
                x.spare(LOGGED, fence, true);
                is("rise()", x.rise(), 3);
                queueIs(x, withoutOne[fence - 2]);
            });
        }
        check.edge("15: FENCES 0 and 1 are SPARED, which RISING has not", () -> {
            OrderedDisc x = Discs.stored(LOGGED);
            Discs.setPlate(x, new int[][] {{4, 2, 7}, {5, 8, -1}, {3, 1, sum(1, one)}});
            x.spare(LOGGED, 0, true);
            x.spare(LOGGED, 1, true);
            is("rise()", x.rise(), 4);
            queueIs(x, "2:7,8 - 3:0,0 -");
        });
        check.edge("15: FENCE 3 is SPARED, nothing but SECTOR 3 is to be done", () -> {
            OrderedDisc x = Discs.stored(LOGGED);
            Discs.setPlate(x, new int[][] {{3, 9, 9}});
            x.spare(LOGGED, 3, true);
            is("rise()", x.rise(), 1);
            queueIs(x, "3:0,0");
        });
    }

    private static void sound() {
        check.edge("16: false without a store", () -> is("isSound()", new OrderedDisc().isSound(), false));
        check.edge("16: PLAIN always", () -> {
            OrderedDisc x = Discs.stored(PLAIN);
            x.write(3, 1, 1);
            x.write(7, 1, 1);
            is("isSound()", x.isSound(), true);
        });
        check.edge("16: LOGGED behind FORMAT", () -> is("isSound()", Discs.stored(LOGGED).isSound(), true));
        check.edge("16: LOGGED, the first PART is not 0", () -> {
            OrderedDisc x = Discs.stored(LOGGED);
            x.write(3, MIN, 0);
            is("isSound()", x.isSound(), false);
        });
        check.edge("16: LOGGED, the second PART is not 0", () -> {
            OrderedDisc x = Discs.stored(LOGGED);
            x.write(3, 0, MIN);
            is("isSound()", x.isSound(), false);
        });
        check.edge("16: LOGGED, as READ", () -> {
            OrderedDisc x = Discs.stored(LOGGED);
            Discs.setPlate(x, new int[][] {{3, 1, 1}});
            is("isSound()", x.isSound(), false);
            x.write(3, 0, 0);
            is("isSound()", x.isSound(), true);
        });
        check.edge("16: SHADOW behind FORMAT", () -> is("isSound()", Discs.stored(SHADOW).isSound(), true));
        check.edge("16: SHADOW without a VERSION", () -> {
            OrderedDisc x = Discs.stored(SHADOW);
            x.write(3, 0, 0);
            is("isSound()", x.isSound(), false);
        });
        check.edge("16: SHADOW, as READ", () -> {
            OrderedDisc x = Discs.stored(SHADOW);
            Discs.setPlate(x, new int[][] {{3, 0, 0}});
            is("isSound()", x.isSound(), false);
            x.write(7, 2, 69);
            is("isSound()", x.isSound(), true);
        });
    }

    public static void main(String[] args) {
        stores();
        puts();
        longs();
        moves();
        gets();
        versions();
        risesRefused();
        rises();
        sound();
        check.finish();
    }
}
