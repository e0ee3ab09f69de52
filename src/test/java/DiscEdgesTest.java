/** Boundary cases of the disc and its QUEUE, each alone: promises 1 to 7, 26 and 27; and of 512 calls. */
public final class DiscEdgesTest {
    private static final Class<IndexOutOfBoundsException> NO_INDEX = IndexOutOfBoundsException.class;
    private static final int MIN = Integer.MIN_VALUE;
    private static final int MAX = Integer.MAX_VALUE;
    // Too small and too large by one, by the most, and such that 2 times or a shift by it comes round.
    private static final int[] NO_SECTORS = {-1, 16, MIN, MAX, 32, 1 << 30, -16};
    private static final int[] NO_PARTS = {-1, 2, MIN, MAX};

    private static final Check check = new Check();

    private static void is(String call, long got, long due) {
        check.is(call, got, due);
    }

    private static void is(String call, boolean got, boolean due) {
        check.is(call, got, due);
    }

    private static void aNewObject() {
        check.edge("1: no store", () -> {
            OrderedDisc x = new OrderedDisc();
            is("status(3)", x.status(3), -1);
            is("isSound()", x.isSound(), false);
            is("put(0, 1)", x.put(0, 1L), -5);
        });
        check.edge("1: no SCRIPT", () -> {
            OrderedDisc x = new OrderedDisc();
            is("status(4)", x.status(4), 0);
            is("clear()", x.clear(), 0);
        });
        check.edge("1: no FENCE is SPARED", () -> {
            OrderedDisc x = new OrderedDisc();
            for (int f = 0; f < 4; f++) {
                is("spare(1, " + f + ", false)", x.spare(1, f, false), false);
            }
            for (int f = 0; f < 2; f++) {
                is("spare(2, " + f + ", false)", x.spare(2, f, false), false);
            }
        });
        check.edge("1: what is on the PLATE is 0 at first", () -> {
            OrderedDisc x = new OrderedDisc();
            for (int p = 0; p < 32; p++) {
                is("plate(" + p / 2 + ", " + p % 2 + ")", x.plate(p / 2, p % 2), 0);
                is("read(" + p / 2 + ", " + p % 2 + ")", x.read(p / 2, p % 2), 0);
            }
        });
        check.edge("1: the QUEUE is empty at first", () -> {
            OrderedDisc x = new OrderedDisc();
            is("status(0)", x.status(0), 0);
            is("status(1)", x.status(1), 0);
            is("status(2)", x.status(2), 0);
        });
        check.edge("1: nothing was done or refused yet", () -> {
            OrderedDisc x = new OrderedDisc();
            is("status(6)", x.status(6), 0);
            is("status(7)", x.status(7), 0);
            for (int what = 11; what <= 16; what++) {
                is("status(" + what + ")", x.status(what), 0);
            }
        });
    }

    private static void writes() {
        check.edge("2: SECTOR 0 is the first one", () -> {
            OrderedDisc x = new OrderedDisc();
            is("write(0, 3, 4)", x.write(0, 3, 4), 1);
            is("read(0, 1)", x.read(0, 1), 4);
        });
        check.edge("2: SECTOR 15 is the last one", () -> {
            OrderedDisc x = new OrderedDisc();
            is("write(15, 3, 4)", x.write(15, 3, 4), 1);
            is("read(15, 1)", x.read(15, 1), 4);
        });
        for (int s : NO_SECTORS) {
            check.edge("2: -1, there is no SECTOR " + s, () -> {
                OrderedDisc x = new OrderedDisc();
                is("write(" + s + ", 1, 1)", x.write(s, 1, 1), -1);
                is("status(11)", x.status(11), 1);
                is("status(0)", x.status(0), 0);
                is("status(6)", x.status(6), 0);
            });
        }
        check.edge("2: its ints may be the least and the greatest", () -> {
            OrderedDisc x = new OrderedDisc();
            x.write(7, MIN, MAX);
            is("entry(0, 1)", x.entry(0, 1), MIN);
            is("entry(0, 2)", x.entry(0, 2), MAX);
            is("read(7, 0)", x.read(7, 0), MIN);
            is("read(7, 1)", x.read(7, 1), MAX);
        });
        check.edge("2: the 60th ENTRY is the last one", () -> {
            OrderedDisc x = new OrderedDisc();
            for (int i = 1; i <= 60; i++) {
                is("write " + i, x.write(i % 16, i, i), i);
            }
            is("read(12, 0)", x.read(12, 0), 60);
        });
        check.edge("2: -6, a 61st ENTRY", () -> {
            OrderedDisc x = new OrderedDisc();
            Discs.fill(x, 60);
            is("write(0, 1, 1)", x.write(0, 1, 1), -6);
            is("status(16)", x.status(16), 1);
            is("status(0)", x.status(0), 60);
            is("status(6)", x.status(6), 0);
            is("read(0, 0)", x.read(0, 0), 0);
        });
        check.edge("2: -1 is told ahead of -6", () -> {
            OrderedDisc x = new OrderedDisc();
            Discs.fill(x, 60);
            is("write(16, 1, 1)", x.write(16, 1, 1), -1);
            is("status(11)", x.status(11), 1);
            is("status(16)", x.status(16), 0);
        });
    }

    private static void fences() {
        check.edge("3: a FENCE into an empty QUEUE", () -> {
            OrderedDisc x = new OrderedDisc();
            is("fence()", x.fence(), 1);
            is("status(1)", x.status(1), 0);
        });
        check.edge("3: the 60th ENTRY is the last one", () -> {
            OrderedDisc x = new OrderedDisc();
            for (int i = 1; i <= 60; i++) {
                is("fence " + i, x.fence(), i);
            }
        });
        check.edge("3: -6, a 61st ENTRY", () -> {
            OrderedDisc x = new OrderedDisc();
            Discs.fill(x, 60);
            is("fence()", x.fence(), -6);
            is("fence()", x.fence(), -6);
            is("status(16)", x.status(16), 2);
            is("status(0)", x.status(0), 60);
        });
    }

    private static void flushes() {
        check.edge("4: FLUSH of an empty QUEUE", () -> {
            OrderedDisc x = new OrderedDisc();
            is("flush()", x.flush(), 0);
            is("digest(0)", x.digest(0), 0);
        });
        check.edge("4: FLUSH of FENCES alone", () -> {
            OrderedDisc x = new OrderedDisc();
            x.fence();
            x.fence();
            is("flush()", x.flush(), 0);
            is("status(0)", x.status(0), 0);
        });
        check.edge("4: FLUSH of a QUEUE full of WRITES", () -> {
            OrderedDisc x = new OrderedDisc();
            for (int i = 0; i < 60; i++) {
                x.write(i % 16, i, -i);
            }
            is("flush()", x.flush(), 60);
            for (int s = 0; s < 16; s++) {
                int latest = s < 12 ? 48 + s : 32 + s;
                is("plate(" + s + ", 0)", x.plate(s, 0), latest);
                is("plate(" + s + ", 1)", x.plate(s, 1), -latest);
            }
        });
        check.edge("4: FLUSH of a full QUEUE counts no FENCE", () -> {
            OrderedDisc x = new OrderedDisc();
            x.write(3, 1, 1);
            Discs.fill(x, 59);
            x.write(4, 1, 1);
            is("flush()", x.flush(), 2);
        });
        check.edge("4: behind it the QUEUE is empty, with room for 60", () -> {
            OrderedDisc x = new OrderedDisc();
            Discs.fill(x, 60);
            x.flush();
            is("status(0)", x.status(0), 0);
            for (int i = 1; i <= 60; i++) {
                is("fence()", x.fence(), i);
            }
            is("fence()", x.fence(), -6);
        });
        check.edge("4: a second FLUSH has nothing", () -> {
            OrderedDisc x = new OrderedDisc();
            x.write(0, 5, 6);
            is("flush()", x.flush(), 1);
            is("flush()", x.flush(), 0);
            is("plate(0, 0)", x.plate(0, 0), 5);
        });
        check.edge("4: in order, the latest of one SECTOR stays", () -> {
            OrderedDisc x = new OrderedDisc();
            x.write(0, 5, 6);
            x.fence();
            x.write(0, 1, 2);
            x.flush();
            is("plate(0, 0)", x.plate(0, 0), 1);
            is("plate(0, 1)", x.plate(0, 1), 2);
        });
    }

    private static void reads() {
        check.edge("5: without a WRITE of it as it is on the PLATE", () -> {
            OrderedDisc x = new OrderedDisc();
            Discs.setPlate(x, new int[][] {{4, 8, 9}});
            x.write(5, 1, 2);
            x.fence();
            is("read(4, 0)", x.read(4, 0), 8);
            is("read(4, 1)", x.read(4, 1), 9);
        });
        check.edge("5: the latest WRITE, behind FENCES too", () -> {
            OrderedDisc x = new OrderedDisc();
            x.write(5, 1, 2);
            x.fence();
            x.write(5, 3, 4);
            x.fence();
            x.fence();
            is("read(5, 0)", x.read(5, 0), 3);
            is("read(5, 1)", x.read(5, 1), 4);
        });
        check.edge("5: a WRITE of 0 is the latest as well", () -> {
            OrderedDisc x = new OrderedDisc();
            Discs.setPlate(x, new int[][] {{5, 1, 2}});
            x.write(5, 0, 0);
            is("read(5, 0)", x.read(5, 0), 0);
            is("plate(5, 0)", x.plate(5, 0), 1);
        });
        check.edge("6: a WRITE in the QUEUE is not on the PLATE", () -> {
            OrderedDisc x = new OrderedDisc();
            x.write(15, 1, 2);
            is("plate(15, 0)", x.plate(15, 0), 0);
            is("plate(15, 1)", x.plate(15, 1), 0);
        });
        check.edge("5, 6: the first and the last PART", () -> {
            OrderedDisc x = new OrderedDisc();
            Discs.setPlate(x, new int[][] {{0, 1, 2}, {15, 3, 4}});
            is("read(0, 0)", x.read(0, 0), 1);
            is("plate(0, 0)", x.plate(0, 0), 1);
            is("read(15, 1)", x.read(15, 1), 4);
            is("plate(15, 1)", x.plate(15, 1), 4);
        });
        for (int s : NO_SECTORS) {
            check.edge("5: throws, there is no SECTOR " + s, () -> {
                OrderedDisc x = new OrderedDisc();
                check.throwsJust("read", NO_INDEX, () -> x.read(s, 0));
                is("status(11)", x.status(11), 0);
            });
            check.edge("6: throws, there is no SECTOR " + s, () -> {
                OrderedDisc x = new OrderedDisc();
                check.throwsJust("plate", NO_INDEX, () -> x.plate(s, 0));
                is("status(11)", x.status(11), 0);
            });
        }
        for (int part : NO_PARTS) {
            check.edge("5: throws, there is no PART " + part, () -> {
                OrderedDisc x = new OrderedDisc();
                check.throwsJust("read", NO_INDEX, () -> x.read(3, part));
                is("status(11)", x.status(11), 0);
            });
            check.edge("6: throws, there is no PART " + part, () -> {
                OrderedDisc x = new OrderedDisc();
                check.throwsJust("plate", NO_INDEX, () -> x.plate(3, part));
                is("status(11)", x.status(11), 0);
            });
        }
    }

    private static void entries() {
        for (int i : new int[] {-1, 2, 59, 60, MIN, MAX}) {
            check.edge("7: -1, there is no ENTRY " + i + " of two", () -> {
                OrderedDisc x = new OrderedDisc();
                x.write(3, 4, 5);
                x.write(6, 7, 8);
                is("entry", x.entry(i, 0), -1);
                is("status(11)", x.status(11), 1);
            });
        }
        check.edge("7: -1, an empty QUEUE has no ENTRY 0", () -> {
            OrderedDisc x = new OrderedDisc();
            is("entry(0, 0)", x.entry(0, 0), -1);
            is("status(11)", x.status(11), 1);
        });
        check.edge("7: -1, one that was there ahead of a FLUSH", () -> {
            OrderedDisc x = new OrderedDisc();
            x.write(3, 4, 5);
            x.flush();
            is("entry(0, 1)", x.entry(0, 1), -1);
            is("status(11)", x.status(11), 1);
        });
        check.edge("7: the last ENTRY of a full QUEUE", () -> {
            OrderedDisc x = new OrderedDisc();
            Discs.fill(x, 59);
            x.write(3, 4, 5);
            is("entry(59, 0)", x.entry(59, 0), 3);
            is("entry(59, 1)", x.entry(59, 1), 4);
            is("entry(59, 2)", x.entry(59, 2), 5);
            is("entry(59, 3)", x.entry(59, 3), 0);
            is("entry(60, 0)", x.entry(60, 0), -1);
        });
        for (int what : new int[] {-1, 4, MIN, MAX}) {
            check.edge("7: -9, what is " + what, () -> {
                OrderedDisc x = new OrderedDisc();
                x.write(3, 4, 5);
                x.fence();
                is("entry(0)", x.entry(0, what), -9);
                is("entry(1)", x.entry(1, what), -9);
                is("status(11)", x.status(11), 0);
            });
        }
        check.edge("7: -1 is told ahead of -9", () -> {
            OrderedDisc x = new OrderedDisc();
            is("entry(0, 4)", x.entry(0, 4), -1);
            is("status(11)", x.status(11), 1);
        });
        check.edge("7: of a FENCE", () -> {
            OrderedDisc x = new OrderedDisc();
            // An ENTRY with ints was there ahead of it.
            x.write(3, 4, 5);
            x.flush();
            x.fence();
            int[] due = {-1, 0, 0, -1};
            for (int what = 0; what < 4; what++) {
                is("entry(0, " + what + ")", x.entry(0, what), due[what]);
            }
            is("status(11)", x.status(11), 0);
        });
    }

    private static void epochs() {
        check.edge("7: ahead of the first FENCE there may be none", () -> {
            OrderedDisc x = new OrderedDisc();
            x.fence();
            is("status(2)", x.status(2), 0);
            x.write(0, 1, 1);
            is("status(2)", x.status(2), 1);
            is("entry(1, 3)", x.entry(1, 3), 0);
        });
        check.edge("7: between two FENCES there may be none", () -> {
            OrderedDisc x = new OrderedDisc();
            x.write(0, 1, 1);
            x.fence();
            x.fence();
            x.fence();
            x.write(0, 2, 2);
            is("status(2)", x.status(2), 2);
            is("entry(0, 3)", x.entry(0, 3), 0);
            is("entry(4, 3)", x.entry(4, 3), 1);
        });
        check.edge("7: behind the last FENCE there may be none", () -> {
            OrderedDisc x = new OrderedDisc();
            x.write(0, 1, 1);
            is("status(2)", x.status(2), 1);
            x.fence();
            is("status(2)", x.status(2), 1);
        });
        check.edge("7: WRITES without a FENCE between are one", () -> {
            OrderedDisc x = new OrderedDisc();
            x.write(0, 1, 1);
            x.write(1, 1, 1);
            is("status(2)", x.status(2), 1);
            is("entry(1, 3)", x.entry(1, 3), 0);
        });
        check.edge("7: 30 of them in a full QUEUE", () -> {
            OrderedDisc x = new OrderedDisc();
            for (int i = 0; i < 30; i++) {
                x.write(i % 16, i, i);
                x.fence();
            }
            is("status(2)", x.status(2), 30);
            for (int i = 0; i < 30; i++) {
                is("entry(" + 2 * i + ", 3)", x.entry(2 * i, 3), i);
                is("entry(" + (2 * i + 1) + ", 3)", x.entry(2 * i + 1, 3), -1);
            }
        });
        check.edge("7: from 0 on again behind a FLUSH, though a FENCE was the last", () -> {
            OrderedDisc x = new OrderedDisc();
            x.write(0, 1, 1);
            x.fence();
            x.flush();
            is("status(2)", x.status(2), 0);
            x.write(0, 2, 2);
            x.fence();
            x.write(0, 3, 3);
            is("entry(0, 3)", x.entry(0, 3), 0);
            is("entry(2, 3)", x.entry(2, 3), 1);
        });
        check.edge("7: from 0 on again behind a FALL and a store()", () -> {
            OrderedDisc x = new OrderedDisc();
            x.write(0, 1, 1);
            x.fence();
            x.fall(0);
            x.write(0, 2, 2);
            is("entry(0, 3)", x.entry(0, 3), 0);
            x.fence();
            x.store(0);
            is("status(2)", x.status(2), 0);
            x.write(0, 2, 2);
            is("entry(0, 3)", x.entry(0, 3), 0);
        });
    }

    private static void digests() {
        check.edge("26: of a PLATE that is all 0", () -> {
            OrderedDisc x = new OrderedDisc();
            is("digest(0)", x.digest(0), 0);
            is("digest(1)", x.digest(1), 0);
        });
        check.edge("26: the last PART as it is, the one ahead of it 31 times", () -> {
            OrderedDisc x = new OrderedDisc();
            Discs.setPlate(x, new int[][] {{15, 2, 5}});
            is("digest(0)", x.digest(0), 67);
        });
        check.edge("26: the first PART comes round, too", () -> {
            OrderedDisc x = new OrderedDisc();
            Discs.setPlate(x, new int[][] {{0, 1, 0}});
            // 31 to the 31st, of which the lower 32 bits are the int.
            is("digest(0)", x.digest(0), java.math.BigInteger.valueOf(31).pow(31).intValue());
        });
        check.edge("26: an int that goes round, from the greatest one on", () -> {
            OrderedDisc x = new OrderedDisc();
            Discs.setPlate(x, new int[][] {{15, 69273666, 2}});
            is("digest(0)", x.digest(0), MIN);
        });
        check.edge("26: of what 1 those READ, the PLATE stays aside", () -> {
            OrderedDisc x = new OrderedDisc();
            Discs.setPlate(x, new int[][] {{15, 2, 5}});
            x.write(15, 0, 4);
            is("digest(1)", x.digest(1), 4);
            is("digest(0)", x.digest(0), 67);
        });
        for (int what : new int[] {-1, 2, MIN, MAX}) {
            check.edge("26: -9, what is " + what, () -> {
                OrderedDisc x = new OrderedDisc();
                is("digest", x.digest(what), -9);
                is("status(11)", x.status(11), 0);
            });
        }
    }

    private static void statuses() {
        for (int what : new int[] {-1, 8, 9, 10, 17, MIN, MAX}) {
            check.edge("27: -9, what is " + what, () -> {
                OrderedDisc x = new OrderedDisc();
                is("status", x.status(what), -9);
                for (int number = 11; number <= 16; number++) {
                    is("status(" + number + ")", x.status(number), 0);
                }
            });
        }
        check.edge("27: 11 .. 16 tell each its own number", () -> {
            OrderedDisc x = new OrderedDisc();
            x.write(16, 0, 0);
            x.store(3);
            x.store(3);
            x.rise();
            x.rise();
            x.rise();
            Discs.fill(x, 60);
            for (int i = 0; i < 4; i++) {
                x.fence();
            }
            int[] due = {1, 2, 0, 0, 3, 4};
            for (int i = 0; i < due.length; i++) {
                is("status(" + (11 + i) + ")", x.status(11 + i), due[i]);
            }
        });
        check.edge("27: a full QUEUE", () -> {
            OrderedDisc x = new OrderedDisc();
            for (int i = 0; i < 30; i++) {
                x.fence();
                x.write(0, i, i);
            }
            is("status(0)", x.status(0), 60);
            is("status(1)", x.status(1), 30);
            is("status(2)", x.status(2), 30);
            is("status(6)", x.status(6), 30);
        });
        check.edge("27: WRITES ever are not fewer by a FLUSH, a FALL or a store()", () -> {
            OrderedDisc x = new OrderedDisc();
            x.write(0, 1, 1);
            x.flush();
            is("status(6)", x.status(6), 1);
            x.write(0, 2, 2);
            x.fall(0);
            is("status(6)", x.status(6), 2);
            x.write(0, 3, 3);
            x.store(1);
            is("status(6)", x.status(6), 3);
        });
        check.edge("27: VERSION is 0 but of SHADOW", () -> {
            int[] due = {0, 0, 4};
            for (int kind = 0; kind < 3; kind++) {
                OrderedDisc x = Discs.stored(kind);
                x.write(7, 4, 131);
                is("status(5) of KIND " + kind, x.status(5), due[kind]);
            }
            OrderedDisc none = new OrderedDisc();
            none.write(7, 4, 131);
            is("status(5) without a store", none.status(5), 0);
        });
    }

    /** An object is used for at most 512 calls: the last of them is as promised, too. */
    private static void longLives() {
        check.edge("the 512th call: 511 REFUSALS are counted", () -> {
            OrderedDisc x = new OrderedDisc();
            for (int i = 0; i < 511; i++) {
                x.write(16, i, i);
            }
            is("status(11)", x.status(11), 511);
        });
        check.edge("the 512th call: 511 FALLS are counted", () -> {
            OrderedDisc x = new OrderedDisc();
            for (int i = 0; i < 511; i++) {
                x.fall(0);
            }
            is("status(7)", x.status(7), 511);
        });
        check.edge("the 512th call: 1785 WRITES ever are counted", () -> {
            OrderedDisc x = Discs.stored(1);
            for (int i = 0; i < 255; i++) {
                x.move(i % 3, (i + 1) % 3);
                x.flush();
            }
            is("status(6)", x.status(6), 7 * 255);
        });
        check.edge("the 512th call: VERSION 256 of a SHADOW store", () -> {
            OrderedDisc x = Discs.stored(2);
            for (int i = 1; i <= 255; i++) {
                x.put(0, i);
                x.flush();
            }
            is("status(5)", x.status(5), 256);
        });
        check.edge("the 512th call: a STATE of an EPOCH that is new each time", () -> {
            OrderedDisc x = new OrderedDisc();
            for (int i = 1; i <= 170; i++) {
                x.write(0, i, 0);
                is("state(1, 0, 0)", x.state(1, 0, 0), i);
                x.fall(1);
            }
            is("read(0, 0)", x.read(0, 0), 170);
            is("states()", x.states(), 1);
        });
    }

    public static void main(String[] args) {
        aNewObject();
        writes();
        fences();
        flushes();
        reads();
        entries();
        epochs();
        digests();
        statuses();
        longLives();
        check.finish();
    }
}
