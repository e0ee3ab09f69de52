/** Boundary cases of STATES and FALLS, each alone: promises 8 to 10. */
public final class StatesEdgesTest {
    private static final Class<IndexOutOfBoundsException> NO_INDEX = IndexOutOfBoundsException.class;
    private static final int MIN = Integer.MIN_VALUE;
    private static final int MAX = Integer.MAX_VALUE;

    private static final Check check = new Check();

    private static void is(String call, long got, long due) {
        check.is(call, got, due);
    }

    /** All STATES of one PART, in order: "0 1 1". */
    private static String column(OrderedDisc x, int sector, int part) {
        StringBuilder text = new StringBuilder();
        int states = x.states();
        for (int i = 0; i < states; i++) {
            text.append(i == 0 ? "" : " ").append(x.state(i, sector, part));
        }
        return text.toString();
    }

    private static void columnIs(OrderedDisc x, int sector, int part, String due) {
        check.isText("PART (" + sector + ", " + part + ") of all STATES", column(x, sector, part), due);
    }

    private static void isTooMany(OrderedDisc x) {
        is("states()", x.states(), -6);
        is("status(16)", x.status(16), 1);
    }

    /** Six SECTORS of 4 STATES each, then an EPOCH that adds just one more. */
    private static OrderedDisc with4097() {
        OrderedDisc x = new OrderedDisc();
        Discs.writeOnes(x, 6);
        x.fence();
        x.write(15, 0, 1);
        return x;
    }

    private static void withoutAnEpoch() {
        check.edge("8: without an EPOCH the PLATE is the one STATE: an empty QUEUE", () -> {
            OrderedDisc x = new OrderedDisc();
            Discs.setPlate(x, new int[][] {{9, 4, 5}});
            is("states()", x.states(), 1);
            is("state(0, 9, 0)", x.state(0, 9, 0), 4);
            is("state(0, 9, 1)", x.state(0, 9, 1), 5);
        });
        check.edge("8: without an EPOCH the PLATE is the one STATE: FENCES alone", () -> {
            OrderedDisc x = new OrderedDisc();
            Discs.setPlate(x, new int[][] {{9, 4, 5}});
            Discs.fill(x, 60);
            is("states()", x.states(), 1);
            is("state(0, 9, 1)", x.state(0, 9, 1), 5);
        });
    }

    private static void sameOnes() {
        check.edge("8: a WRITE of what is there leaves one STATE", () -> {
            OrderedDisc x = new OrderedDisc();
            Discs.setPlate(x, new int[][] {{2, 7, 7}});
            x.write(2, 7, 7);
            is("states()", x.states(), 1);
        });
        check.edge("8: a WRITE that changes one PART leaves two", () -> {
            OrderedDisc x = new OrderedDisc();
            x.write(2, 0, 7);
            is("states()", x.states(), 2);
            columnIs(x, 2, 1, "0 7");
        });
        check.edge("8: each PART for itself", () -> {
            OrderedDisc x = new OrderedDisc();
            x.write(2, 1, 7);
            is("states()", x.states(), 4);
            columnIs(x, 2, 0, "0 0 1 1");
            columnIs(x, 2, 1, "0 7 0 7");
        });
        check.edge("8: the same WRITE twice is as one", () -> {
            OrderedDisc x = new OrderedDisc();
            x.write(2, 1, 7);
            x.write(2, 1, 7);
            is("states()", x.states(), 4);
        });
        check.edge("8: what an earlier WRITE of the EPOCH gives may stay", () -> {
            OrderedDisc x = new OrderedDisc();
            x.write(2, 1, 0);
            x.write(2, 2, 0);
            is("states()", x.states(), 3);
            columnIs(x, 2, 0, "0 1 2");
        });
        check.edge("8: a WRITE back to what it was", () -> {
            OrderedDisc x = new OrderedDisc();
            x.write(2, 1, 0);
            x.write(2, 0, 0);
            is("states()", x.states(), 2);
        });
        check.edge("8: what an EPOCH ahead gave in between can't come back", () -> {
            OrderedDisc x = new OrderedDisc();
            x.write(2, 1, 0);
            x.write(2, 2, 0);
            x.fence();
            x.write(3, 1, 0);
            // With SECTOR 3 written SECTOR 2 has its latest int.
            is("states()", x.states(), 4);
            columnIs(x, 2, 0, "0 1 2 2");
            columnIs(x, 3, 0, "0 0 0 1");
        });
        check.edge("8: STATES of two EPOCHS that are the same are one", () -> {
            OrderedDisc x = new OrderedDisc();
            x.write(2, 1, 0);
            x.fence();
            x.write(2, 0, 0);
            is("states()", x.states(), 2);
        });
        check.edge("8: EPOCHS without WRITES are none", () -> {
            OrderedDisc x = new OrderedDisc();
            x.fence();
            x.fence();
            x.write(2, 1, 0);
            x.fence();
            x.fence();
            x.write(2, 2, 0);
            x.fence();
            is("states()", x.states(), 3);
        });
        check.edge("8: 30 EPOCHS, the most", () -> {
            OrderedDisc x = new OrderedDisc();
            for (int i = 1; i <= 30; i++) {
                x.write(i % 16, i, 0);
                x.fence();
            }
            is("states()", x.states(), 31);
            // STATE by STATE: PART (14, 0) is 0 till the 14th WRITE is done, then 14, then 30 by the last one.
            int early = 0;
            int middle = 0;
            int late = 0;
            for (int i = 0; i < 31; i++) {
                int v = x.state(i, 14, 0);
                early += v == 0 ? 1 : 0;
                middle += v == 14 ? 1 : 0;
                late += v == 30 ? 1 : 0;
            }
            is("with 0", early, 14);
            is("with 14", middle, 16);
            is("with 30", late, 1);
        });
    }

    /** EPOCHS of one WRITE each, which go through the SECTORS: each adds the torn two and the whole one. */
    private static void oneByOne(int epochs, int firstSector, int step) {
        OrderedDisc x = new OrderedDisc();
        for (int i = 0; i < epochs; i++) {
            x.write(Math.floorMod(firstSector + i * step, 16), i + 1, i + 1);
            x.fence();
        }
        is("states()", x.states(), 1 + 3 * epochs);
        Oracle naive = new Oracle();
        for (int i = 0; i < epochs; i++) {
            naive.write(Math.floorMod(firstSector + i * step, 16), i + 1, i + 1);
            naive.fence();
        }
        int states = 1 + 3 * epochs;
        int part = 0;
        // Now the next STATE, now one from afar, each in a few PARTS: 512 calls are not for all of them.
        for (int i = 0; i < states; i++) {
            for (int at : new int[] {i, states - 1 - i}) {
                part = (part + 7) % 32;
                int due = naive.state(at, part / 2, part % 2);
                is("state(" + at + ", " + part / 2 + ", " + part % 2 + ")", x.state(at, part / 2, part % 2), due);
            }
        }
        for (int p = 0; p < 32; p++) {
            int due = naive.state(states / 2, p / 2, p % 2);
            is("state(" + states / 2 + ", " + p / 2 + ", " + p % 2 + ")", x.state(states / 2, p / 2, p % 2), due);
            is("the next one", x.state(states / 2 + 1, p / 2, p % 2), naive.state(states / 2 + 1, p / 2, p % 2));
        }
    }

    private static void everywhere() {
        check.edge("9: STATES that differ in each of the 32 PARTS", () -> oneByOne(16, 0, 1));
        check.edge("9: .. the last SECTOR first", () -> oneByOne(16, 15, -1));
        check.edge("9: 30 EPOCHS that write each of the 16 SECTORS", () -> oneByOne(30, 0, 1));
        check.edge("9: .. the last SECTOR first", () -> oneByOne(30, 15, -1));
        check.edge("8: 12 EPOCHS of four WRITES, each of 256 STATES", () -> {
            OrderedDisc x = new OrderedDisc();
            for (int i = 0; i < 48; i++) {
                x.write(i % 16, i + 1, -i - 1);
                if (i % 4 == 3) {
                    x.fence();
                }
            }
            is("states()", x.states(), 1 + 12 * 255);
            is("states() again", x.states(), 3061);
            check.throwsJust("state(3061, 0, 0)", NO_INDEX, () -> x.state(3061, 0, 0));
            // The last STATE has the greatest first int there can be, and then the greatest second one.
            is("state(3060, 0, 0)", x.state(3060, 0, 0), 33);
            is("state(3060, 0, 1)", x.state(3060, 0, 1), -17);
            is("state(3060, 1, 0)", x.state(3060, 1, 0), 34);
            is("state(3060, 3, 1)", x.state(3060, 3, 1), -20);
            is("state(3060, 15, 0)", x.state(3060, 15, 0), 32);
        });
    }

    private static void order() {
        check.edge("8: the lesser int first, from the least to the greatest", () -> {
            OrderedDisc x = new OrderedDisc();
            x.write(2, MAX, 0);
            x.write(2, MIN, 0);
            x.write(2, 1, 0);
            x.write(2, -1, 0);
            columnIs(x, 2, 0, MIN + " -1 0 1 " + MAX);
        });
        check.edge("8: by SECTORS, whichever is written first", () -> {
            OrderedDisc x = new OrderedDisc();
            x.write(15, 1, 0);
            x.write(0, 1, 0);
            columnIs(x, 0, 0, "0 0 1 1");
            columnIs(x, 15, 0, "0 1 0 1");
        });
        check.edge("8: then by PARTS", () -> {
            OrderedDisc x = new OrderedDisc();
            x.write(15, -1, -1);
            columnIs(x, 15, 0, "-1 -1 0 0");
            columnIs(x, 15, 1, "-1 0 -1 0");
        });
        check.edge("8: those of several EPOCHS stand among each other", () -> {
            OrderedDisc x = new OrderedDisc();
            x.write(0, 5, 0);
            x.fence();
            x.write(0, 3, 0);
            x.fence();
            x.write(0, -4, 0);
            columnIs(x, 0, 0, "-4 0 3 5");
        });
    }

    private static void room() {
        check.edge("8: 4096 STATES are not too many", () -> {
            OrderedDisc x = new OrderedDisc();
            Discs.writeOnes(x, 6);
            is("states()", x.states(), 4096);
            is("status(16)", x.status(16), 0);
        });
        check.edge("8: 4096 of them by few SECTORS with many ints", () -> {
            OrderedDisc x = new OrderedDisc();
            for (int i = 1; i <= 7; i++) {
                x.write(0, i, i);
                x.write(1, i, i);
            }
            is("states()", x.states(), 4096);
        });
        check.edge("8: 4096 that two EPOCHS leave alike are counted once", () -> {
            OrderedDisc x = new OrderedDisc();
            Discs.writeOnes(x, 6);
            x.fence();
            for (int s = 0; s < 6; s++) {
                x.write(s, 0, 0);
            }
            is("states()", x.states(), 4096);
        });
        check.edge("8: 4096 by EPOCHS of which none has so many", () -> {
            OrderedDisc x = new OrderedDisc();
            x.write(6, 1, 0);
            x.fence();
            // An EPOCH adds one fewer than it has: its first STATE is where the one ahead of it ends.
            Discs.writeOnes(x, 5);
            is("states()", x.states(), 1 + 1024);
            x.fence();
            for (int s = 7; s < 12; s++) {
                x.write(s, 1, 1);
            }
            is("states()", x.states(), 1 + 1024 + 1023);
            x.fence();
            for (int s = 0; s < 5; s++) {
                x.write(s, 2, 2);
            }
            is("states()", x.states(), 1 + 1024 + 1023 + 1023);
            x.fence();
            for (int s = 7; s < 12; s++) {
                x.write(s, 2, 2);
            }
            is("states()", x.states(), 1 + 1024 + 3 * 1023);
            x.fence();
            x.write(12, 1, 0);
            x.fence();
            x.write(13, 1, 0);
            is("states()", x.states(), 4096);
            x.fence();
            x.write(14, 1, 0);
            is("states()", x.states(), -6);
        });
        check.edge("8: -6, 4097 STATES", () -> isTooMany(with4097()));
        check.edge("8: -6, 4097 STATES, of which the last differs from the others in the first PART", () -> {
            OrderedDisc x = new OrderedDisc();
            for (int s = 1; s < 7; s++) {
                x.write(s, 1, 1);
            }
            x.fence();
            is("states()", x.states(), 4096);
            x.write(0, 1, 0);
            isTooMany(x);
        });
        check.edge("8: -6, 4608 STATES by few SECTORS", () -> {
            OrderedDisc x = new OrderedDisc();
            for (int i = 1; i <= 7; i++) {
                x.write(0, i, i);
                x.write(1, i, i);
            }
            x.write(1, 7, 8);
            isTooMany(x);
        });
        check.edge("8: -6, 8192 STATES of one EPOCH", () -> {
            OrderedDisc x = new OrderedDisc();
            Discs.writeOnes(x, 6);
            x.write(6, 0, 1);
            isTooMany(x);
        });
        check.edge("8: -6, as many as an int can't tell", () -> {
            OrderedDisc x = new OrderedDisc();
            // 2 to the 32nd, of which an int has 0.
            Discs.writeOnes(x, 16);
            isTooMany(x);
        });
        check.edge("8: -6, as many as a long can't tell", () -> {
            OrderedDisc x = new OrderedDisc();
            // 4 to the 32nd, of which a long has 0.
            for (int i = 0; i < 48; i++) {
                x.write(i % 16, 1 + i / 16, 1 + i / 16);
            }
            isTooMany(x);
        });
        check.edge("8: -6, too many in an EPOCH ahead, few in the last one", () -> {
            OrderedDisc x = new OrderedDisc();
            Discs.writeOnes(x, 7);
            x.fence();
            x.write(0, 5, 5);
            isTooMany(x);
        });
        check.edge("8: -6, nothing changes", () -> {
            OrderedDisc x = with4097();
            x.states();
            is("status(0)", x.status(0), 8);
            is("read(15, 1)", x.read(15, 1), 1);
            is("plate(15, 1)", x.plate(15, 1), 0);
            is("flush()", x.flush(), 7);
            is("states()", x.states(), 1);
        });
    }

    private static void oneState() {
        check.edge("9: the first and the last one", () -> {
            OrderedDisc x = new OrderedDisc();
            x.write(4, -1, 5);
            is("state(0, 4, 0)", x.state(0, 4, 0), -1);
            is("state(0, 4, 1)", x.state(0, 4, 1), 0);
            is("state(3, 4, 0)", x.state(3, 4, 0), 0);
            is("state(3, 4, 1)", x.state(3, 4, 1), 5);
        });
        for (int i : new int[] {-1, 4, 4095, 4096, MIN, MAX}) {
            check.edge("9: throws, there is no STATE " + i + " of four", () -> {
                OrderedDisc x = new OrderedDisc();
                x.write(4, -1, 5);
                check.throwsJust("state", NO_INDEX, () -> x.state(i, 4, 0));
                is("status(11)", x.status(11), 0);
            });
        }
        check.edge("9: throws, there is no STATE 1 of an empty QUEUE", () -> {
            OrderedDisc x = new OrderedDisc();
            check.throwsJust("state", NO_INDEX, () -> x.state(1, 0, 0));
        });
        for (int s : new int[] {-1, 16, MIN, MAX, 1 << 30}) {
            check.edge("9: throws, there is no SECTOR " + s, () -> {
                OrderedDisc x = new OrderedDisc();
                check.throwsJust("state", NO_INDEX, () -> x.state(0, s, 0));
                is("status(11)", x.status(11), 0);
            });
        }
        for (int part : new int[] {-1, 2, MIN, MAX}) {
            check.edge("9: throws, there is no PART " + part, () -> {
                OrderedDisc x = new OrderedDisc();
                check.throwsJust("state", NO_INDEX, () -> x.state(0, 3, part));
                is("status(11)", x.status(11), 0);
            });
        }
        check.edge("9: the last PART, of a SECTOR that is not written", () -> {
            OrderedDisc x = new OrderedDisc();
            Discs.setPlate(x, new int[][] {{15, 8, 9}});
            x.write(0, 1, 1);
            is("state(3, 15, 1)", x.state(3, 15, 1), 9);
        });
        check.edge("9: the last one of 4096", () -> {
            OrderedDisc x = new OrderedDisc();
            Discs.writeOnes(x, 6);
            for (int p = 0; p < 12; p++) {
                is("state(4095, " + p / 2 + ", " + p % 2 + ")", x.state(4095, p / 2, p % 2), 1);
                is("state(0, " + p / 2 + ", " + p % 2 + ")", x.state(0, p / 2, p % 2), 0);
            }
            check.throwsJust("state(4096, 0, 0)", NO_INDEX, () -> x.state(4096, 0, 0));
        });
        check.edge("9: throws, they are too many", () -> {
            OrderedDisc x = with4097();
            check.throwsJust("state(0, 0, 0)", NO_INDEX, () -> x.state(0, 0, 0));
            is("status(16)", x.status(16), 0);
        });
        check.edge("9: in any order, the same one twice, and the next", () -> {
            OrderedDisc x = new OrderedDisc();
            x.write(4, 1, 1);
            int[] asked = {2, 3, 3, 0, 1, 0, 3, 2, 0, 2, 1, 3};
            for (int i : asked) {
                is("state(" + i + ", 4, 0)", x.state(i, 4, 0), i / 2);
                is("state(" + i + ", 4, 1)", x.state(i, 4, 1), i % 2);
            }
        });
        check.edge("9: behind one more WRITE they are other ones", () -> {
            OrderedDisc x = new OrderedDisc();
            x.write(4, 1, 0);
            is("state(0, 4, 0)", x.state(0, 4, 0), 0);
            x.write(4, -1, 0);
            is("state(0, 4, 0)", x.state(0, 4, 0), -1);
            x.fence();
            x.write(4, -2, 0);
            is("state(0, 4, 0)", x.state(0, 4, 0), -2);
        });
    }

    private static void falls() {
        for (int i : new int[] {-1, 4, MIN, MAX}) {
            check.edge("10: -1, there is no STATE " + i + " of four", () -> {
                OrderedDisc x = new OrderedDisc();
                x.write(4, 1, 5);
                is("fall", x.fall(i), -1);
                is("status(11)", x.status(11), 1);
                is("status(7)", x.status(7), 0);
                is("status(0)", x.status(0), 1);
                is("digest(0)", x.digest(0), 0);
            });
        }
        check.edge("10: the first STATE", () -> {
            OrderedDisc x = new OrderedDisc();
            x.write(4, 1, 5);
            is("fall(0)", x.fall(0), 1);
            is("read(4, 0)", x.read(4, 0), 0);
            is("read(4, 1)", x.read(4, 1), 0);
        });
        check.edge("10: the last STATE", () -> {
            OrderedDisc x = new OrderedDisc();
            x.write(4, 1, 5);
            is("fall(3)", x.fall(3), 1);
            is("plate(4, 0)", x.plate(4, 0), 1);
            is("plate(4, 1)", x.plate(4, 1), 5);
            is("read(4, 1)", x.read(4, 1), 5);
        });
        check.edge("10: a SECTOR that is torn", () -> {
            OrderedDisc x = new OrderedDisc();
            x.write(4, 1, 5);
            is("fall(1)", x.fall(1), 1);
            is("plate(4, 0)", x.plate(4, 0), 0);
            is("plate(4, 1)", x.plate(4, 1), 5);
        });
        check.edge("10: of an empty QUEUE", () -> {
            OrderedDisc x = new OrderedDisc();
            Discs.setPlate(x, new int[][] {{4, 1, 5}});
            is("fall(0)", x.fall(0), 1);
            is("fall(1)", x.fall(1), -1);
            is("status(7)", x.status(7), 1);
            is("plate(4, 1)", x.plate(4, 1), 5);
        });
        check.edge("10: behind it the QUEUE is empty, with room for 60", () -> {
            OrderedDisc x = new OrderedDisc();
            Discs.fill(x, 60);
            is("fall(0)", x.fall(0), 1);
            is("status(0)", x.status(0), 0);
            is("flush()", x.flush(), 0);
            Discs.fill(x, 60);
            is("status(0)", x.status(0), 60);
        });
        check.edge("10: behind it there is one STATE", () -> {
            OrderedDisc x = new OrderedDisc();
            x.write(4, 1, 5);
            x.fall(2);
            is("states()", x.states(), 1);
            is("state(0, 4, 0)", x.state(0, 4, 0), 1);
            is("state(0, 4, 1)", x.state(0, 4, 1), 0);
        });
        check.edge("10: the last one of 4096", () -> {
            OrderedDisc x = new OrderedDisc();
            Discs.writeOnes(x, 6);
            is("fall(4096)", x.fall(4096), -1);
            is("fall(4095)", x.fall(4095), 1);
            is("plate(5, 1)", x.plate(5, 1), 1);
        });
        check.edge("10: -6, too many", () -> {
            OrderedDisc x = with4097();
            is("fall(0)", x.fall(0), -6);
            is("status(16)", x.status(16), 1);
            is("status(7)", x.status(7), 0);
            is("status(0)", x.status(0), 8);
        });
        check.edge("10: -6 is told ahead of -1", () -> {
            OrderedDisc x = with4097();
            is("fall(-1)", x.fall(-1), -6);
            is("fall(4097)", x.fall(4097), -6);
            is("status(11)", x.status(11), 0);
        });
        check.edge("10: of an EPOCH that is not the last one", () -> {
            OrderedDisc x = new OrderedDisc();
            x.write(0, 1, 0);
            x.fence();
            x.write(1, 1, 0);
            x.fence();
            x.write(2, 1, 0);
            is("fall(1)", x.fall(1), 1);
            is("plate(0, 0)", x.plate(0, 0), 1);
            is("plate(1, 0)", x.plate(1, 0), 0);
            is("plate(2, 0)", x.plate(2, 0), 0);
        });
    }

    public static void main(String[] args) {
        withoutAnEpoch();
        sameOnes();
        everywhere();
        order();
        room();
        oneState();
        falls();
        check.finish();
    }
}
