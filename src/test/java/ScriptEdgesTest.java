/** Boundary cases of the SCRIPT, of GOING THROUGH it and of LEAST, each alone: promises 17 to 25. */
public final class ScriptEdgesTest {
    private static final int MIN = Integer.MIN_VALUE;
    private static final int MAX = Integer.MAX_VALUE;
    private static final int PLAIN = 0;
    private static final int LOGGED = 1;
    private static final int SHADOW = 2;
    private static final int[] NO_KEYS = {-1, 3, MIN, MAX};
    private static final int[] NO_KINDS = {-1, 3, MIN, MAX};
    // HIGH 1, LOW 1: what a FALL can tear in two.
    private static final long TORN = 4294967297L;

    private static final Check check = new Check();

    private static void is(String call, long got, long due) {
        check.is(call, got, due);
    }

    private static void is(String call, boolean got, boolean due) {
        check.is(call, got, due);
    }

    private static void goneIs(OrderedDisc x, int... due) {
        for (int what = 0; what < due.length; what++) {
            is("gone(" + what + ")", x.gone(what), due[what]);
        }
    }

    private static void badIs(OrderedDisc x, int i, int... due) {
        for (int what = 0; what < due.length; what++) {
            is("bad(" + i + ", " + what + ")", x.bad(i, what), due[what]);
        }
    }

    /** PUTS of KEY 0, each with a LOW of its own: no FALL can tear them. */
    private static OrderedDisc withPuts(int puts) {
        OrderedDisc x = new OrderedDisc();
        for (int i = 1; i <= puts; i++) {
            x.addPut(0, i);
        }
        return x;
    }

    private static OrderedDisc withSures(int sures) {
        OrderedDisc x = new OrderedDisc();
        for (int i = 0; i < sures; i++) {
            x.addSure();
        }
        return x;
    }

    private static OrderedDisc withTornPut() {
        OrderedDisc x = new OrderedDisc();
        x.addPut(0, TORN);
        return x;
    }

    private static void spareAll(OrderedDisc x, int kind) {
        for (int f = 0; f < 4; f++) {
            x.spare(kind, f, true);
        }
    }

    private static void acts() {
        for (int key : NO_KEYS) {
            check.edge("17: -1, there is no KEY " + key, () -> {
                OrderedDisc x = new OrderedDisc();
                is("addPut", x.addPut(key, 5L), -1);
                is("status(11)", x.status(11), 1);
                is("status(4)", x.status(4), 0);
            });
            check.edge("18: -1, the one of both is " + key, () -> {
                OrderedDisc x = new OrderedDisc();
                is("addMove", x.addMove(key, 1), -1);
                is("status(11)", x.status(11), 1);
                is("status(4)", x.status(4), 0);
            });
            check.edge("18: -1, the other one is " + key, () -> {
                OrderedDisc x = new OrderedDisc();
                is("addMove", x.addMove(1, key), -1);
                is("status(11)", x.status(11), 1);
                is("status(4)", x.status(4), 0);
            });
        }
        check.edge("17: KEY 0 and KEY 2 are the first and the last one", () -> {
            OrderedDisc x = new OrderedDisc();
            is("addPut(0, 5)", x.addPut(0, 5L), 1);
            is("addPut(2, 5)", x.addPut(2, 5L), 2);
        });
        check.edge("18: KEY 0 and KEY 2 are the first and the last one", () -> {
            OrderedDisc x = new OrderedDisc();
            is("addMove(0, 2)", x.addMove(0, 2), 1);
            is("addMove(2, 0)", x.addMove(2, 0), 2);
        });
        check.edge("18: -1, they are one", () -> {
            OrderedDisc x = new OrderedDisc();
            for (int key = 0; key < 3; key++) {
                is("addMove(" + key + ", " + key + ")", x.addMove(key, key), -1);
            }
            is("status(11)", x.status(11), 3);
            is("status(4)", x.status(4), 0);
        });
        check.edge("17: the 8th ACT is the last one", () -> {
            OrderedDisc x = withSures(7);
            is("addPut(0, 1)", x.addPut(0, 1L), 8);
            is("status(4)", x.status(4), 8);
        });
        check.edge("18: the 8th ACT is the last one", () -> is("addMove(0, 1)", withSures(7).addMove(0, 1), 8));
        check.edge("19: the 8th ACT is the last one", () -> is("addSure()", withSures(7).addSure(), 8));
        check.edge("17: -6 there are 8", () -> {
            OrderedDisc x = withSures(8);
            is("addPut(0, 1)", x.addPut(0, 1L), -6);
            is("status(16)", x.status(16), 1);
            is("status(4)", x.status(4), 8);
        });
        check.edge("18: -6 there are 8", () -> {
            OrderedDisc x = withSures(8);
            is("addMove(0, 1)", x.addMove(0, 1), -6);
            is("status(16)", x.status(16), 1);
            is("status(4)", x.status(4), 8);
        });
        check.edge("19: -6 there are 8", () -> {
            OrderedDisc x = withSures(8);
            is("addSure()", x.addSure(), -6);
            is("status(16)", x.status(16), 1);
            is("status(4)", x.status(4), 8);
        });
        check.edge("17: -1 is told ahead of -6", () -> {
            OrderedDisc x = withSures(8);
            is("addPut(3, 1)", x.addPut(3, 1L), -1);
            is("status(16)", x.status(16), 0);
        });
        check.edge("18: -1 is told ahead of -6", () -> {
            OrderedDisc x = withSures(8);
            is("addMove(1, 1)", x.addMove(1, 1), -1);
            is("addMove(3, 1)", x.addMove(3, 1), -1);
            is("status(16)", x.status(16), 0);
        });
        check.edge("17 to 19: a store, or what is in the QUEUE, is not asked for", () -> {
            OrderedDisc x = new OrderedDisc();
            Discs.fill(x, 60);
            is("addPut(0, 1)", x.addPut(0, 1L), 1);
            is("addMove(0, 1)", x.addMove(0, 1), 2);
            is("addSure()", x.addSure(), 3);
            is("status(0)", x.status(0), 60);
        });
        check.edge("20: an empty SCRIPT", () -> is("clear()", new OrderedDisc().clear(), 0));
        check.edge("20: a full SCRIPT", () -> {
            OrderedDisc x = withSures(8);
            is("clear()", x.clear(), 8);
            is("status(4)", x.status(4), 0);
            is("addSure()", x.addSure(), 1);
        });
        check.edge("20: what was in it is not gone through any more", () -> {
            OrderedDisc x = withTornPut();
            x.clear();
            is("through(0)", x.through(PLAIN), 0);
            is("gone(3)", x.gone(3), 0);
            x.addSure();
            is("through(0)", x.through(PLAIN), 0);
            is("gone(3)", x.gone(3), 0);
        });
    }

    private static void moments() {
        for (int kind : NO_KINDS) {
            check.edge("21: -2, there is no KIND " + kind, () -> {
                OrderedDisc x = withTornPut();
                is("through", x.through(kind), -2);
                is("status(12)", x.status(12), 1);
                goneIs(x, 0, 0, 0, 0, 0, 0, 0);
            });
        }
        for (int kind = 0; kind < 3; kind++) {
            int k = kind;
            check.edge("21: an empty SCRIPT has the first MOMENT, KIND " + k, () -> {
                OrderedDisc x = new OrderedDisc();
                is("through", x.through(k), 0);
                goneIs(x, 1, 1, 0, 0, 0, 0, 1);
            });
            check.edge("21: a SURE alone has one behind its FLUSH, KIND " + k, () -> {
                OrderedDisc x = withSures(1);
                is("through", x.through(k), 0);
                goneIs(x, 2, 2, 0, 0, 0, 1, 1);
            });
            check.edge("21: a SCRIPT of 8 ACTS, KIND " + k, () -> {
                OrderedDisc x = withSures(8);
                is("through", x.through(k), 0);
                goneIs(x, 9, 9, 0, 0, 0, 8, 1);
            });
        }
        check.edge("21: behind each WRITE: PLAIN", () -> {
            OrderedDisc x = withPuts(1);
            is("through(0)", x.through(PLAIN), 0);
            goneIs(x, 2, 3, 0, 1, 0, 0, 2);
        });
        check.edge("21: behind no FENCE: LOGGED", () -> {
            OrderedDisc x = withPuts(1);
            is("through(1)", x.through(LOGGED), 0);
            goneIs(x, 7, x.gone(1), 0, 6, 4, 0, x.gone(6));
        });
        check.edge("21: behind no FENCE: SHADOW", () -> {
            OrderedDisc x = withPuts(1);
            is("through(2)", x.through(SHADOW), 0);
            // 1 at first; 2 by the KEY that changes, and two WRITES more that change nothing; 3 more by the ROOT.
            goneIs(x, 5, 1 + 2 + 2 + 2 + 5, 0, 4, 2, 0, 5);
        });
        check.edge("21: FENCES that are SPARED are not done", () -> {
            OrderedDisc x = withPuts(1);
            spareAll(x, SHADOW);
            is("through(2)", x.through(SHADOW), 0);
            goneIs(x, 5, 1 + 2 + 2 + 2 + 8, 0, 4, 0, 0, 8);
        });
        check.edge("21: on a disc of its own", () -> {
            OrderedDisc x = withTornPut();
            x.store(LOGGED);
            x.put(1, 8L);
            is("through(0)", x.through(PLAIN), 2);
            is("status(0)", x.status(0), 10);
            is("status(3)", x.status(3), LOGGED);
            is("status(6)", x.status(6), 6);
            is("status(7)", x.status(7), 0);
            is("get(1)", x.get(1), 8L);
        });
        check.edge("21: FORMAT of its own each time", () -> {
            OrderedDisc x = withPuts(1);
            for (int i = 0; i < 3; i++) {
                is("through(2)", x.through(SHADOW), 0);
                goneIs(x, 5, 12, 0, 4, 2, 0, 5);
            }
        });
    }

    private static void rightOnes() {
        check.edge("21: n up to how many were begun: the ACT that is just begun", () -> {
            OrderedDisc x = withTornPut();
            is("through(0)", x.through(PLAIN), 2);
            // (0, 0) and (1, 1) are RIGHT, though the only ACT is not done yet.
            badIs(x, 0, 1, 1, 1, 0, 0, 1, 0, 0, 0, 0);
            badIs(x, 1, 1, 2, 1, 0, 1, 0, 0, 0, 0, 0);
        });
        check.edge("21: n up to how many were begun: not one more", () -> {
            OrderedDisc x = withTornPut();
            x.addPut(0, 1L);
            // (0, 1) is as behind the second ACT; at MOMENT 1 that one is not begun.
            is("through(0)", x.through(PLAIN), 2 + 1);
            badIs(x, 0, 1, 1, 1, 0, 0, 1, 0, 0, 0, 0);
            badIs(x, 2, 2, 2, 2, 0, 1, 0, 0, 0, 0, 0);
        });
        check.edge("21: n from 0 on without a SURE", () -> {
            OrderedDisc x = new OrderedDisc();
            x.addPut(0, 1L);
            x.addPut(0, 0L);
            x.addPut(0, TORN);
            is("through(0)", x.through(PLAIN), 1);
            badIs(x, 0, 3, 2, 3, 0, 1, 0, 0, 0, 0, 0);
        });
        check.edge("21: n from the SURE on, that one too", () -> {
            OrderedDisc x = new OrderedDisc();
            x.addPut(0, 1L);
            x.addPut(0, 0L);
            x.addSure();
            x.addPut(0, TORN);
            // (0, 1) is as behind the first ACT, which is too long ago.
            is("through(0)", x.through(PLAIN), 2);
            badIs(x, 0, 4, 1, 4, 3, 0, 1, 0, 0, 0, 0);
            badIs(x, 1, 4, 2, 4, 3, 1, 0, 0, 0, 0, 0);
        });
        check.edge("21: n from the SURE on, though it is the first ACT", () -> {
            OrderedDisc x = withSures(1);
            x.addPut(0, TORN);
            is("through(0)", x.through(PLAIN), 2);
            badIs(x, 0, 2, 1, 2, 1, 0, 1, 0, 0, 0, 0);
        });
        check.edge("21: n from the latest of two SURES on", () -> {
            OrderedDisc x = withSures(1);
            x.addPut(0, 1L);
            x.addSure();
            x.addPut(0, TORN + TORN);
            is("through(0)", x.through(PLAIN), 2);
            // From (0, 1) to (2, 2).
            badIs(x, 0, 4, 1, 4, 3, 0, 2, 0, 0, 0, 0);
            badIs(x, 1, 4, 2, 4, 3, 2, 1, 0, 0, 0, 0);
        });
        for (int key = 0; key < 3; key++) {
            int k = key;
            check.edge("21: RISING mends a KEY that is torn, KEY " + k, () -> {
                OrderedDisc x = new OrderedDisc();
                x.addPut(k, 0x500000007L);
                x.addPut(k, 0x800000009L);
                is("through(1)", x.through(LOGGED), 0);
            });
            check.edge("21: RISING mends a MOVE that is half done, from KEY " + k, () -> {
                OrderedDisc x = new OrderedDisc();
                x.addPut(k, 0x500000007L);
                x.addPut((k + 1) % 3, 0x800000009L);
                x.addSure();
                x.addMove(k, (k + 1) % 3);
                is("through(1)", x.through(LOGGED), 0);
            });
        }
        check.edge("21: all that a MOVE leaves between", () -> {
            OrderedDisc x = new OrderedDisc();
            x.addPut(0, 5L);
            x.addSure();
            x.addMove(0, 2);
            // Both KEYS have 5 behind its first WRITE; behind the second one none may have it, too.
            is("through(0)", x.through(PLAIN), 1 + 2);
            badIs(x, 0, 3, 1, 3, 2, 0, 5, 0, 0, 0, 5);
            badIs(x, 1, 4, 0, 3, 2, 0, 0, 0, 0, 0, 0);
            badIs(x, 2, 4, 3, 3, 2, 0, 5, 0, 0, 0, 5);
        });
    }

    private static void room() {
        check.edge("21: 60 ENTRIES are not too many", () -> {
            OrderedDisc x = withPuts(6);
            is("through(1)", x.through(LOGGED), 0);
            is("gone(0)", x.gone(0), 37);
            is("gone(3)", x.gone(3), 36);
            is("gone(4)", x.gone(4), 24);
        });
        check.edge("21: -6, 61 ENTRIES, of which the last is a FENCE and no MOMENT", () -> {
            OrderedDisc x = withPuts(5);
            x.addMove(0, 1);
            is("through(1)", x.through(LOGGED), -6);
            is("status(16)", x.status(16), 1);
            goneIs(x, 0, 0, 0, 0, 0, 0, 0);
        });
        check.edge("21: -6, 61 ENTRIES, though a SURE follows at once", () -> {
            OrderedDisc x = withPuts(5);
            x.addMove(0, 1);
            x.addSure();
            is("through(1)", x.through(LOGGED), -6);
        });
        check.edge("21: with FENCE 3 SPARED the 61 are 55", () -> {
            OrderedDisc x = withPuts(5);
            x.addMove(0, 1);
            x.spare(LOGGED, 3, true);
            is("through(1)", x.through(LOGGED), 0);
            is("gone(3)", x.gone(3), 37);
            is("gone(4)", x.gone(4), 18);
        });
        check.edge("21: a SURE in time makes room", () -> {
            OrderedDisc x = withPuts(6);
            x.addSure();
            x.addMove(0, 1);
            is("through(1)", x.through(LOGGED), 0);
            is("gone(3)", x.gone(3), 43);
            is("gone(4)", x.gone(4), 28);
        });
        check.edge("21: SHADOW has room for 8 ACTS", () -> {
            OrderedDisc x = withPuts(8);
            is("through(2)", x.through(SHADOW), 0);
            is("gone(3)", x.gone(3), 32);
            is("gone(4)", x.gone(4), 16);
        });
        check.edge("21: 4096 STATES at a MOMENT are not too many", () -> {
            OrderedDisc x = withPuts(6);
            spareAll(x, SHADOW);
            // Both PARTS of both ROOTS and KEY 0 at both its places have 4 ints each.
            is("through(2)", x.through(SHADOW), 0);
            is("gone(6)", x.gone(6), 4096);
            is("gone(0)", x.gone(0), 25);
        });
        check.edge("21: -6, more than 4096 STATES at a MOMENT", () -> {
            OrderedDisc x = withPuts(7);
            spareAll(x, SHADOW);
            is("through(2)", x.through(SHADOW), -6);
            is("status(16)", x.status(16), 1);
            goneIs(x, 0, 0, 0, 0, 0, 0, 0);
        });
        check.edge("21: -6, though there are few STATES again at the last MOMENT", () -> {
            OrderedDisc x = withPuts(7);
            x.addSure();
            spareAll(x, SHADOW);
            is("through(2)", x.through(SHADOW), -6);
        });
        check.edge("21: -6, though something is BAD", () -> {
            OrderedDisc x = new OrderedDisc();
            for (int i = 1; i <= 7; i++) {
                x.addPut(i % 3, i * TORN);
            }
            spareAll(x, SHADOW);
            is("through(2)", x.through(SHADOW), -6);
            is("bad(0, 0)", x.bad(0, 0), -1);
        });
    }

    private static void tallies() {
        check.edge("22: 0 if there was none", () -> goneIs(new OrderedDisc(), 0, 0, 0, 0, 0, 0, 0));
        for (int what : new int[] {-1, 7, MIN, MAX}) {
            check.edge("22: -9, what is " + what, () -> {
                OrderedDisc x = new OrderedDisc();
                is("gone without a through()", x.gone(what), -9);
                x.through(PLAIN);
                is("gone", x.gone(what), -9);
                is("status(11)", x.status(11), 0);
            });
        }
        check.edge("22: -2, of the latest that was not refused", () -> {
            OrderedDisc x = withTornPut();
            x.through(PLAIN);
            x.through(3);
            goneIs(x, 2, 5, 2, 1, 0, 0, 4);
            badIs(x, 1, 1, 2, 1, 0, 1, 0, 0, 0, 0, 0);
        });
        check.edge("22: -6, of the latest that was not refused", () -> {
            OrderedDisc x = withTornPut();
            x.through(PLAIN);
            for (int i = 0; i < 7; i++) {
                x.addPut(1, i);
            }
            is("through(1)", x.through(LOGGED), -6);
            goneIs(x, 2, 5, 2, 1, 0, 0, 4);
            badIs(x, 1, 1, 2, 1, 0, 1, 0, 0, 0, 0, 0);
            is("bad(2, 0)", x.bad(2, 0), -1);
        });
        check.edge("22: of the latest, though an earlier one had more", () -> {
            OrderedDisc x = withTornPut();
            x.through(PLAIN);
            x.clear();
            x.through(PLAIN);
            goneIs(x, 1, 1, 0, 0, 0, 0, 1);
            is("bad(0, 0)", x.bad(0, 0), -1);
        });
        check.edge("22: .. and one ahead of that had more", () -> {
            OrderedDisc x = withTornPut();
            x.through(PLAIN);
            x.clear();
            x.through(PLAIN);
            x.through(PLAIN);
            goneIs(x, 1, 1, 0, 0, 0, 0, 1);
            is("bad(0, 0)", x.bad(0, 0), -1);
        });
        check.edge("22: clear() and store() change nothing of it", () -> {
            OrderedDisc x = withTornPut();
            x.through(PLAIN);
            x.clear();
            x.store(SHADOW);
            goneIs(x, 2, 5, 2, 1, 0, 0, 4);
            badIs(x, 0, 1, 1, 1, 0, 0, 1, 0, 0, 0, 0);
        });
        check.edge("22: most STATES at one MOMENT that is not the last", () -> {
            OrderedDisc x = withTornPut();
            x.addSure();
            is("through(0)", x.through(PLAIN), 2);
            goneIs(x, 3, 6, 2, 1, 0, 1, 4);
        });
        check.edge("22: WRITES, FENCES and FLUSHES of RISING are none of them", () -> {
            OrderedDisc x = withTornPut();
            is("through(1)", x.through(LOGGED), 0);
            is("gone(3)", x.gone(3), 6);
            is("gone(4)", x.gone(4), 4);
            is("gone(5)", x.gone(5), 0);
        });
    }

    /** Three PUTS that tear: 2, 13 and 60 BAD ones at MOMENTS 1 to 3. */
    private static OrderedDisc with75() {
        OrderedDisc x = withTornPut();
        x.addPut(1, 2 * TORN);
        x.addPut(2, 3 * TORN);
        x.through(PLAIN);
        return x;
    }

    private static void badOnes() {
        check.edge("23: -1, without a through()", () -> {
            OrderedDisc x = new OrderedDisc();
            is("bad(0, 0)", x.bad(0, 0), -1);
            is("status(11)", x.status(11), 1);
        });
        check.edge("23: -1, nothing was BAD", () -> {
            OrderedDisc x = withPuts(1);
            x.through(PLAIN);
            is("bad(0, 0)", x.bad(0, 0), -1);
        });
        check.edge("23: the last one of two", () -> {
            OrderedDisc x = withTornPut();
            x.through(PLAIN);
            is("bad(1, 1)", x.bad(1, 1), 2);
            is("bad(2, 1)", x.bad(2, 1), -1);
            is("status(11)", x.status(11), 1);
        });
        for (int i : new int[] {-1, 50, 74, 75, MIN, MAX}) {
            check.edge("23: -1, " + i + " is not kept of 75", () -> {
                OrderedDisc x = with75();
                is("gone(2)", x.gone(2), 75);
                is("bad", x.bad(i, 0), -1);
                is("status(11)", x.status(11), 1);
            });
        }
        check.edge("23: the first and the 50th are kept of 75", () -> {
            OrderedDisc x = with75();
            badIs(x, 0, 1, 1, 1, 0, 0, 1, 0, 0, 0, 0);
            // 15 are of MOMENTS 1 and 2; of MOMENT 3 STATE 0 is RIGHT and none behind it up to STATE 47.
            badIs(x, 49, 3, 35, 3, 0, 1, 0, 0, 0, 3, 3);
        });
        check.edge("23: just 50 are all kept", () -> {
            OrderedDisc x = withTornPut();
            x.addPut(0, 2 * TORN);
            x.addPut(1, 3L);
            x.addMove(2, 1);
            // 4 - 2, 9 - 3, 18 - 4, and by the MOVE, which gives nothing that was not there, 14 twice.
            is("through(0)", x.through(PLAIN), 2 + 6 + 14 + 14 + 14);
            is("bad(49, 0)", x.bad(49, 0), 5);
            is("bad(50, 0)", x.bad(50, 0), -1);
        });
        check.edge("23: of 51 the last is not kept", () -> {
            OrderedDisc x = withTornPut();
            x.addPut(0, 2L);
            x.addPut(1, 3L);
            x.addMove(0, 2);
            // 4 - 2, 6 - 3, 12 - 4, and by the MOVE 24 - 5 twice.
            is("through(0)", x.through(PLAIN), 2 + 3 + 8 + 19 + 19);
            is("bad(49, 0)", x.bad(49, 0), 5);
            is("bad(50, 0)", x.bad(50, 0), -1);
        });
        check.edge("23: by MOMENTS, then STATES", () -> {
            OrderedDisc x = with75();
            for (int i = 1; i < 50; i++) {
                int before = 1000 * x.bad(i - 1, 0) + x.bad(i - 1, 1);
                is("ahead of bad(" + i + ")", before < 1000 * x.bad(i, 0) + x.bad(i, 1), true);
            }
        });
        for (int what : new int[] {-1, 10, MIN, MAX}) {
            check.edge("23: -9, what is " + what, () -> {
                OrderedDisc x = withTornPut();
                x.through(PLAIN);
                is("bad(0)", x.bad(0, what), -9);
                is("status(11)", x.status(11), 0);
            });
        }
        check.edge("23: -1 is told ahead of -9", () -> {
            OrderedDisc x = withTornPut();
            x.through(PLAIN);
            is("bad(2, 10)", x.bad(2, 10), -1);
            is("status(11)", x.status(11), 1);
        });
        check.edge("23: the ints of the last KEY, the least and the greatest", () -> {
            OrderedDisc x = new OrderedDisc();
            x.addPut(2, 0x7FFFFFFF80000000L);
            x.through(PLAIN);
            // By the lesser int first: (0, MIN) is RIGHT by no ACT, (0, 0) is, (MAX, MIN) is, (MAX, 0) is not.
            badIs(x, 0, 1, 0, 1, 0, 0, 0, 0, 0, 0, MIN);
            badIs(x, 1, 1, 3, 1, 0, 0, 0, 0, 0, MAX, 0);
        });
        check.edge("23: KEYS as they came out, behind RISING", () -> {
            OrderedDisc x = withTornPut();
            x.spare(LOGGED, 1, true);
            // KEY 0 is torn in two ways, and SECTOR 3 is (0, 0), (0, SUM) or (1, 0), so that RISING can't
            // mend it; so behind the WRITE of the KEY and, since an EPOCH ahead counts too, behind the last one.
            is("through(1)", x.through(LOGGED), 6 + 6);
            for (int i = 0; i < 12; i++) {
                is("bad(" + i + ", 4) and (" + i + ", 5)", x.bad(i, 4) + x.bad(i, 5), 1);
                is("bad(" + i + ", 0)", x.bad(i, 0), i < 6 ? 5 : 6);
            }
        });
    }

    private static void spares() {
        int[][] none = {{PLAIN, 0}, {PLAIN, -1}, {LOGGED, -1}, {LOGGED, 4}, {LOGGED, 32}, {LOGGED, MIN}, {LOGGED, MAX},
            {SHADOW, -1}, {SHADOW, 2}, {SHADOW, 32}, {-1, 0}, {3, 0}, {MIN, 0}, {MAX, 0}};
        for (int[] n : none) {
            check.edge("24: false, KIND " + n[0] + " has no FENCE " + n[1], () -> {
                OrderedDisc x = new OrderedDisc();
                is("spare on", x.spare(n[0], n[1], true), false);
                is("spare off", x.spare(n[0], n[1], false), false);
                is("spare on again", x.spare(n[0], n[1], true), false);
                is("status(11)", x.status(11), 0);
                is("status(12)", x.status(12), 0);
                x.store(LOGGED);
                is("put(0, 1) has all FENCES", x.put(0, 1L), 10);
            });
        }
        int[][] some = {{LOGGED, 0}, {LOGGED, 3}, {SHADOW, 0}, {SHADOW, 1}};
        for (int[] n : some) {
            check.edge("24: false if it was so: KIND " + n[0] + ", FENCE " + n[1], () -> {
                OrderedDisc x = new OrderedDisc();
                is("spare off at first", x.spare(n[0], n[1], false), false);
                is("spare on", x.spare(n[0], n[1], true), true);
                is("spare on again", x.spare(n[0], n[1], true), false);
                is("spare off", x.spare(n[0], n[1], false), true);
                is("spare off again", x.spare(n[0], n[1], false), false);
                is("status(11)", x.status(11), 0);
            });
        }
        check.edge("24: of that KIND alone", () -> {
            OrderedDisc x = new OrderedDisc();
            x.spare(LOGGED, 0, true);
            is("spare(2, 0, true)", x.spare(SHADOW, 0, true), true);
            x.spare(SHADOW, 0, false);
            x.store(SHADOW);
            is("put(0, 1)", x.put(0, 1L), 6);
        });
        String[] without = {"4:0,0 5:1,-1 6:0,0 3:1,1775065023 - 0:0,1 - 3:0,0 -", "4:0,0 5:1,-1 6:0,0 - 3:1,1775065023 0:0,1 - 3:0,0 -",
            "4:0,0 5:1,-1 6:0,0 - 3:1,1775065023 - 0:0,1 3:0,0 -", "4:0,0 5:1,-1 6:0,0 - 3:1,1775065023 - 0:0,1 - 3:0,0"};
        for (int fence = 0; fence < 4; fence++) {
            int f = fence;
            check.edge("24: FENCE " + f + " of LOGGED, no other one", () -> {
                OrderedDisc x = Discs.stored(LOGGED);
                x.spare(LOGGED, f, true);
                is("put(0, 1)", x.put(0, 1L), 9);
                check.isText("the QUEUE", Discs.queue(x), without[f]);
            });
        }
        check.edge("24: FENCE 0 of SHADOW, no other one", () -> {
            OrderedDisc x = Discs.stored(SHADOW);
            x.spare(SHADOW, 0, true);
            is("put(0, 1)", x.put(0, 1L), 5);
            check.isText("the QUEUE", Discs.queue(x), "4:0,1 5:0,0 6:0,0 7:2,69 -");
        });
        check.edge("24: FENCE 1 of SHADOW, no other one", () -> {
            OrderedDisc x = Discs.stored(SHADOW);
            x.spare(SHADOW, 1, true);
            is("put(0, 1)", x.put(0, 1L), 5);
            check.isText("the QUEUE", Discs.queue(x), "4:0,1 5:0,0 6:0,0 - 7:2,69");
        });
        check.edge("24: what is in the QUEUE by now stays there", () -> {
            OrderedDisc x = Discs.stored(SHADOW);
            x.put(0, 1L);
            x.spare(SHADOW, 0, true);
            is("status(0)", x.status(0), 6);
            is("a fence() by hand", x.fence(), 7);
        });
    }

    private static void leasts() {
        for (int kind : NO_KINDS) {
            check.edge("25: -2, there is no KIND " + kind, () -> {
                OrderedDisc x = withTornPut();
                is("least", x.least(kind), -2);
                is("status(12)", x.status(12), 1);
            });
        }
        for (int kind = 0; kind < 3; kind++) {
            int k = kind;
            check.edge("25: an empty SCRIPT needs no FENCE, KIND " + k, () -> {
                OrderedDisc x = new OrderedDisc();
                is("least", x.least(k), 0);
            });
            check.edge("25: nor do 8 SURES, KIND " + k, () -> is("least", withSures(8).least(k), 0));
            check.edge("25: nor does a PUT that no FALL can tear, KIND " + k, () -> is("least", withPuts(1).least(k), 0));
        }
        check.edge("25: -5, something is BAD with all FENCES, of which PLAIN has none", () -> {
            OrderedDisc x = withTornPut();
            is("least(0)", x.least(PLAIN), -5);
            is("status(15)", x.status(15), 1);
        });
        check.edge("25: -5, one STATE alone is BAD", () -> {
            OrderedDisc x = withPuts(1);
            x.addPut(1, 1L);
            is("through(0)", x.through(PLAIN), 1);
            is("least(0)", x.least(PLAIN), -5);
        });
        check.edge("25: 0, nothing is BAD with PLAIN", () -> is("least(0)", withPuts(8).least(PLAIN), 0));
        check.edge("25: the bits of LOGGED: FENCE 3, since 0, 1 and 2 are spared by then", () -> {
            OrderedDisc x = withPuts(1);
            x.addPut(1, 1L);
            // No FALL can tear these; one FENCE between them is all they need, whichever it is.
            is("least(1)", x.least(LOGGED), 8);
            for (int f = 0; f < 4; f++) {
                x.spare(LOGGED, f, true);
                is("through(1) without FENCE " + f, x.through(LOGGED), 0);
                x.spare(LOGGED, f, false);
            }
        });
        check.edge("25: the bits of LOGGED: FENCES 1 and 2", () -> is("least(1)", withTornPut().least(LOGGED), 6));
        check.edge("25: the bits of SHADOW: FENCE 0", () -> is("least(2)", withTornPut().least(SHADOW), 1));
        check.edge("25: the bits of SHADOW: FENCES 0 and 1", () -> {
            OrderedDisc x = withTornPut();
            x.addPut(1, 2 * TORN);
            is("least(2)", x.least(SHADOW), 3);
        });
        check.edge("25: just 60 ENTRIES with all FENCES", () -> is("least(1)", withPuts(6).least(LOGGED), 0));
        check.edge("25: -6, 61 ENTRIES with all FENCES", () -> {
            OrderedDisc x = withPuts(5);
            x.addMove(0, 1);
            is("least(1)", x.least(LOGGED), -6);
            is("status(16)", x.status(16), 1);
        });
        check.edge("25: -6, though with those that are SPARED now it could be gone through", () -> {
            OrderedDisc x = withPuts(7);
            spareAll(x, LOGGED);
            is("through(1)", x.through(LOGGED) >= 0, true);
            is("least(1)", x.least(LOGGED), -6);
        });
        check.edge("25: 4096 STATES without the last FENCE: it is spared", () -> is("least(2)", withPuts(6).least(SHADOW), 0));
        check.edge("25: too many STATES without it, nothing BAD: it is not", () -> {
            OrderedDisc x = withPuts(7);
            is("least(2)", x.least(SHADOW), 2);
            is("status(16)", x.status(16), 0);
            is("status(15)", x.status(15), 0);
        });
        check.edge("25: FENCES that are SPARED now are set aside", () -> {
            OrderedDisc x = withTornPut();
            spareAll(x, LOGGED);
            is("through(1) has BAD ones", x.through(LOGGED) > 0, true);
            is("least(1)", x.least(LOGGED), 6);
        });
        check.edge("25: what is SPARED stays as it was", () -> {
            OrderedDisc x = withTornPut();
            x.spare(LOGGED, 1, true);
            x.spare(LOGGED, 3, true);
            x.least(LOGGED);
            is("FENCE 0", x.spare(LOGGED, 0, false), false);
            is("FENCE 1", x.spare(LOGGED, 1, false), true);
            is("FENCE 2", x.spare(LOGGED, 2, false), false);
            is("FENCE 3", x.spare(LOGGED, 3, false), true);
        });
        check.edge("25: what gone() and bad() tell stays as it was", () -> {
            OrderedDisc x = withTornPut();
            x.through(PLAIN);
            is("least(1)", x.least(LOGGED), 6);
            goneIs(x, 2, 5, 2, 1, 0, 0, 4);
            badIs(x, 1, 1, 2, 1, 0, 1, 0, 0, 0, 0, 0);
            is("bad(2, 0)", x.bad(2, 0), -1);
        });
        check.edge("25: .. without a through(), too", () -> {
            OrderedDisc x = withTornPut();
            is("least(1)", x.least(LOGGED), 6);
            goneIs(x, 0, 0, 0, 0, 0, 0, 0);
            is("bad(0, 0)", x.bad(0, 0), -1);
        });
        check.edge("25: .. if it is refused by -5 or -6, too", () -> {
            OrderedDisc x = withTornPut();
            x.through(PLAIN);
            for (int i = 2; i <= 8; i++) {
                x.addPut(1, i);
            }
            is("least(0)", x.least(PLAIN), -5);
            is("least(1)", x.least(LOGGED), -6);
            goneIs(x, 2, 5, 2, 1, 0, 0, 4);
            badIs(x, 1, 1, 2, 1, 0, 1, 0, 0, 0, 0, 0);
            is("bad(2, 0)", x.bad(2, 0), -1);
        });
        check.edge("25: the object's own disc stays as it was", () -> {
            OrderedDisc x = withTornPut();
            x.store(SHADOW);
            x.put(2, 4L);
            x.least(LOGGED);
            is("status(0)", x.status(0), 6);
            is("status(3)", x.status(3), SHADOW);
            is("status(6)", x.status(6), 4);
            is("get(2)", x.get(2), 4L);
        });
    }

    public static void main(String[] args) {
        acts();
        moments();
        rightOnes();
        room();
        tallies();
        badOnes();
        spares();
        leasts();
        check.finish();
    }
}
