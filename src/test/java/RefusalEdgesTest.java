/**
 * Every call that can be refused, alone: it answers its number, that number is counted once, and
 * nothing else changes. For this there are always two objects with the same calls behind them, of
 * which one has the refused call as well; all that can be asked of them is the same then.
 */
public final class RefusalEdgesTest {
    private static final int MIN = Integer.MIN_VALUE;
    private static final int MAX = Integer.MAX_VALUE;
    private static final long TORN = 4294967297L;

    private interface Making {
        OrderedDisc make();
    }

    private interface Call {
        long on(OrderedDisc x);
    }

    private static final Check check = new Check();

    private static void told(StringBuilder text, long answer) {
        text.append(answer).append(' ');
    }

    /** All that can be asked, in an order in which what changes something comes last. */
    private static String whole(OrderedDisc x) {
        StringBuilder text = new StringBuilder();
        for (int what = 0; what < 8; what++) {
            told(text, x.status(what));
        }
        told(text, x.digest(0));
        told(text, x.digest(1));
        text.append(Discs.queue(x)).append(' ');
        for (int what = 0; what < 7; what++) {
            told(text, x.gone(what));
        }
        int kept = Math.min(3, x.gone(2));
        for (int i = 0; i < kept; i++) {
            for (int what = 0; what < 10; what++) {
                told(text, x.bad(i, what));
            }
        }
        told(text, x.isSound() ? 1 : 0);
        for (int key = 0; key < 3 && x.status(3) >= 0; key++) {
            told(text, x.get(key));
        }
        for (int kind = 0; kind < 3; kind++) {
            told(text, x.through(kind));
            told(text, x.gone(1));
            told(text, x.gone(4));
        }
        for (int f = 0; f < 4; f++) {
            told(text, x.spare(1, f, true) ? 1 : 0);
            told(text, x.spare(2, f, true) ? 1 : 0);
        }
        told(text, x.flush());
        told(text, x.digest(0));
        return text.toString();
    }

    private static void changesNothing(Making making, Call call) {
        OrderedDisc with = making.make();
        OrderedDisc without = making.make();
        call.on(with);
        check.isText("all else", whole(with), whole(without));
    }

    /** The call on such an object answers the number, which is a REFUSAL. */
    private static void refused(String sentence, Making making, int number, Call call) {
        check.edge(sentence, () -> {
            OrderedDisc x = making.make();
            int[] before = counts(x);
            check.is("the call", call.on(x), number);
            int[] behind = counts(x);
            for (int i = 0; i < 6; i++) {
                check.is("status(" + (11 + i) + ")", behind[i] - before[i], -number == i + 1 ? 1 : 0);
            }
            changesNothing(making, call);
        });
    }

    /** The call on such an object is no REFUSAL, whatever it answers or throws. */
    private static void notCounted(String sentence, Making making, Call call) {
        check.edge(sentence, () -> {
            OrderedDisc x = making.make();
            int[] before = counts(x);
            call.on(x);
            int[] behind = counts(x);
            for (int i = 0; i < 6; i++) {
                check.is("status(" + (11 + i) + ")", behind[i], before[i]);
            }
            changesNothing(making, call);
        });
    }

    private static int[] counts(OrderedDisc x) {
        int[] counts = new int[6];
        for (int i = 0; i < 6; i++) {
            counts[i] = x.status(11 + i);
        }
        return counts;
    }

    /** A call that throws answers 0 here; that it throws what is due is looked at elsewhere. */
    private static Call thrown(Call call) {
        return x -> {
            try {
                call.on(x);
                check.is("throws", false, true);
            } catch (IndexOutOfBoundsException | IllegalStateException e) {
                return 0;
            }
            return 0;
        };
    }

    private static OrderedDisc bare() {
        OrderedDisc x = new OrderedDisc();
        x.write(2, 3, 4);
        x.fence();
        x.write(2, 5, 6);
        x.addPut(0, TORN);
        x.through(0);
        return x;
    }

    private static OrderedDisc bareAndFull() {
        OrderedDisc x = bare();
        Discs.fill(x, 60);
        return x;
    }

    private static OrderedDisc crowded() {
        OrderedDisc x = bare();
        Discs.writeOnes(x, 7);
        return x;
    }

    private static OrderedDisc withStore(int kind) {
        OrderedDisc x = Discs.stored(kind);
        x.put(0, TORN);
        x.flush();
        x.put(1, 2 * TORN);
        x.addPut(0, TORN);
        x.addMove(0, 1);
        x.spare(kind, 1, true);
        x.through(0);
        return x;
    }

    private static OrderedDisc withFullStore(int kind) {
        OrderedDisc x = withStore(kind);
        Discs.fill(x, 60);
        return x;
    }

    private static OrderedDisc withFullScript() {
        OrderedDisc x = bare();
        for (int i = 1; i < 8; i++) {
            x.addPut(i % 3, i);
        }
        return x;
    }

    private static void ofTheDisc() {
        for (int sector : new int[] {-1, 16, MIN, MAX}) {
            refused("2: write of SECTOR " + sector, RefusalEdgesTest::bare, -1, x -> x.write(sector, 7, 7));
        }
        refused("2: write into a full QUEUE", RefusalEdgesTest::bareAndFull, -6, x -> x.write(1, 7, 7));
        refused("2: write of no SECTOR into a full QUEUE", RefusalEdgesTest::bareAndFull, -1, x -> x.write(16, 7, 7));
        refused("3: fence into a full QUEUE", RefusalEdgesTest::bareAndFull, -6, OrderedDisc::fence);
        for (int i : new int[] {-1, 3, MIN, MAX}) {
            refused("7: ENTRY " + i + " of three", RefusalEdgesTest::bare, -1, x -> x.entry(i, 0));
        }
        refused("7: no ENTRY and no what", RefusalEdgesTest::bare, -1, x -> x.entry(3, 4));
        refused("8: states, too many", RefusalEdgesTest::crowded, -6, OrderedDisc::states);
        for (int i : new int[] {-1, 3, MIN, MAX}) {
            refused("10: fall to STATE " + i + " of them", RefusalEdgesTest::few, -1, x -> x.fall(i));
        }
        refused("10: fall, too many", RefusalEdgesTest::crowded, -6, x -> x.fall(0));
        refused("10: fall to none, too many", RefusalEdgesTest::crowded, -6, x -> x.fall(-1));
    }

    /** Three STATES. */
    private static OrderedDisc few() {
        OrderedDisc x = new OrderedDisc();
        x.write(2, 3, 0);
        x.fence();
        x.write(2, 5, 0);
        return x;
    }

    private static void ofTheStores() {
        for (int kind : new int[] {-1, 3, MIN, MAX}) {
            refused("11: store of KIND " + kind, () -> withStore(1), -2, x -> x.store(kind));
        }
        refused("12: put without a store", RefusalEdgesTest::bare, -5, x -> x.put(0, 1L));
        refused("12: put of no KEY without a store", RefusalEdgesTest::bareAndFull, -5, x -> x.put(3, 1L));
        refused("13: move without a store", RefusalEdgesTest::bare, -5, x -> x.move(0, 1));
        refused("13: move of no KEY without a store", RefusalEdgesTest::bareAndFull, -5, x -> x.move(1, 1));
        refused("15: rise without a store", OrderedDisc::new, -5, OrderedDisc::rise);
        for (int kind = 0; kind < 3; kind++) {
            int k = kind;
            for (int key : new int[] {-1, 3, MIN, MAX}) {
                refused("12: put of KEY " + key + ", KIND " + k, () -> withStore(k), -1, x -> x.put(key, 1L));
                refused("13: move from KEY " + key + ", KIND " + k, () -> withStore(k), -1, x -> x.move(key, 1));
                refused("13: move to KEY " + key + ", KIND " + k, () -> withStore(k), -1, x -> x.move(1, key));
            }
            refused("13: move from KEY 1 to KEY 1, KIND " + k, () -> withStore(k), -1, x -> x.move(1, 1));
            refused("12: put without room, KIND " + k, () -> withFullStore(k), -6, x -> x.put(2, 1L));
            refused("12: put of no KEY without room, KIND " + k, () -> withFullStore(k), -1, x -> x.put(3, 1L));
            refused("13: move without room, KIND " + k, () -> withFullStore(k), -6, x -> x.move(0, 2));
            refused("13: move of no KEY without room, KIND " + k, () -> withFullStore(k), -1, x -> x.move(2, 2));
            refused("15: rise with a QUEUE, KIND " + k, () -> withStore(k), -5, OrderedDisc::rise);
        }
    }

    private static void ofTheScript() {
        for (int key : new int[] {-1, 3, MIN, MAX}) {
            refused("17: addPut of KEY " + key, RefusalEdgesTest::bare, -1, x -> x.addPut(key, 1L));
            refused("18: addMove from KEY " + key, RefusalEdgesTest::bare, -1, x -> x.addMove(key, 1));
            refused("18: addMove to KEY " + key, RefusalEdgesTest::bare, -1, x -> x.addMove(1, key));
        }
        refused("18: addMove from KEY 0 to KEY 0", RefusalEdgesTest::bare, -1, x -> x.addMove(0, 0));
        refused("17: addPut as the ninth", RefusalEdgesTest::withFullScript, -6, x -> x.addPut(0, 1L));
        refused("18: addMove as the ninth", RefusalEdgesTest::withFullScript, -6, x -> x.addMove(0, 1));
        refused("19: addSure as the ninth", RefusalEdgesTest::withFullScript, -6, OrderedDisc::addSure);
        refused("17: addPut of no KEY as the ninth", RefusalEdgesTest::withFullScript, -1, x -> x.addPut(3, 1L));
        refused("18: addMove of no KEY as the ninth", RefusalEdgesTest::withFullScript, -1, x -> x.addMove(3, 1));
        for (int kind : new int[] {-1, 3, MIN, MAX}) {
            refused("21: through with KIND " + kind, RefusalEdgesTest::bare, -2, x -> x.through(kind));
            refused("25: least of KIND " + kind, RefusalEdgesTest::bare, -2, x -> x.least(kind));
        }
        refused("21: through without room", RefusalEdgesTest::withFullScript, -6, x -> x.through(1));
        refused("25: least without room", RefusalEdgesTest::withFullScript, -6, x -> x.least(1));
        refused("25: least with something BAD", RefusalEdgesTest::withFullScript, -5, x -> x.least(0));
        for (int i : new int[] {-1, 2, 50, MIN, MAX}) {
            refused("23: bad " + i + " of two", RefusalEdgesTest::bare, -1, x -> x.bad(i, 0));
        }
        refused("23: bad of none and no what", RefusalEdgesTest::bare, -1, x -> x.bad(2, 10));
    }

    private static void noRefusals() {
        for (int what : new int[] {-1, 4}) {
            notCounted("7: -9 of entry", RefusalEdgesTest::bare, x -> x.entry(0, what));
        }
        notCounted("7: -1 of a FENCE's SECTOR", RefusalEdgesTest::bare, x -> x.entry(1, 0));
        notCounted("7: -1 of a FENCE's EPOCH", RefusalEdgesTest::bare, x -> x.entry(1, 3));
        notCounted("22: -9 of gone", RefusalEdgesTest::bare, x -> x.gone(7));
        notCounted("23: -9 of bad", RefusalEdgesTest::bare, x -> x.bad(0, 10));
        notCounted("26: -9 of digest", RefusalEdgesTest::bare, x -> x.digest(2));
        notCounted("27: -9 of status", RefusalEdgesTest::bare, x -> x.status(10));
        notCounted("24: false of spare, no KIND", () -> withStore(1), x -> x.spare(3, 0, true) ? 1 : 0);
        notCounted("24: false of spare, no FENCE", () -> withStore(1), x -> x.spare(1, 4, true) ? 1 : 0);
        notCounted("24: false of spare, it was so", () -> withStore(1), x -> x.spare(1, 1, true) ? 1 : 0);
        notCounted("5: what read throws", RefusalEdgesTest::bare, thrown(x -> x.read(16, 0)));
        notCounted("6: what plate throws", RefusalEdgesTest::bare, thrown(x -> x.plate(0, 2)));
        notCounted("9: what state throws", RefusalEdgesTest::bare, thrown(x -> x.state(99, 0, 0)));
        notCounted("9: what state throws, too many", RefusalEdgesTest::crowded, thrown(x -> x.state(0, 0, 0)));
        notCounted("14: what get throws without a store", RefusalEdgesTest::bare, thrown(x -> x.get(0)));
        notCounted("14: what get throws", () -> withStore(2), thrown(x -> x.get(3)));
        notCounted("8: states that are counted", RefusalEdgesTest::bare, OrderedDisc::states);
        notCounted("9: a state that is looked at", RefusalEdgesTest::bare, x -> x.state(1, 2, 0));
        notCounted("25: least that is found", RefusalEdgesTest::bare, x -> x.least(1));
        notCounted("25: least that meets BAD ones on its way", () -> withStore(1), x -> x.least(2));
    }

    public static void main(String[] args) {
        ofTheDisc();
        ofTheStores();
        ofTheScript();
        noRefusals();
        check.finish();
    }
}
