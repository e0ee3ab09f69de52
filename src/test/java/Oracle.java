import java.util.ArrayList;
import java.util.Arrays;
import java.util.List;
import java.util.TreeSet;

/**
 * The document once more, as naively as can be, with lists and sets: every STATE is made and put
 * into a set, every RISING is done on a disc of its own with a QUEUE of its own. For comparison
 * with OrderedDisc, whose ways are all other ones.
 */
final class Oracle {
    record Entry(int sector, int a, int b) {
        boolean isFence() {
            return sector < 0;
        }
    }

    record Act(char what, int k, int l, long v) {
    }

    static final class TooMany extends Exception {
        private static final long serialVersionUID = 1L;
    }

    /** A disc with, perhaps, a store upon it. */
    static final class Machine {
        int[][] plate = new int[16][2];
        List<Entry> queue = new ArrayList<>();
        int kind = -1;
        boolean[] spared = new boolean[4];
        int writesEver = 0;
        Runnable afterWrite = null;

        int read(int sector, int part) {
            for (int i = queue.size() - 1; i >= 0; i--) {
                Entry e = queue.get(i);
                if (e.sector() == sector) {
                    return part == 0 ? e.a() : e.b();
                }
            }
            return plate[sector][part];
        }

        void write(int sector, int a, int b) {
            queue.add(new Entry(sector, a, b));
            writesEver++;
            if (afterWrite != null) {
                afterWrite.run();
            }
        }

        void fence(int number) {
            if (!spared[number]) {
                queue.add(new Entry(-1, 0, 0));
            }
        }

        int flush() {
            int n = 0;
            for (Entry e : queue) {
                if (!e.isFence()) {
                    plate[e.sector()] = new int[] {e.a(), e.b()};
                    n++;
                }
            }
            queue.clear();
            return n;
        }

        List<List<Entry>> epochs() {
            List<List<Entry>> all = new ArrayList<>();
            List<Entry> one = new ArrayList<>();
            for (Entry e : queue) {
                if (!e.isFence()) {
                    one.add(e);
                } else if (!one.isEmpty()) {
                    all.add(one);
                    one = new ArrayList<>();
                }
            }
            if (!one.isEmpty()) {
                all.add(one);
            }
            return all;
        }

        List<int[]> states() throws TooMany {
            TreeSet<int[]> set = new TreeSet<>(Arrays::compare);
            int[] base = new int[32];
            for (int p = 0; p < 32; p++) {
                base[p] = plate[p / 2][p % 2];
            }
            List<List<Entry>> epochs = epochs();
            if (epochs.isEmpty()) {
                set.add(base.clone());
            }
            for (List<Entry> epoch : epochs) {
                List<TreeSet<Integer>> options = new ArrayList<>();
                for (int p = 0; p < 32; p++) {
                    TreeSet<Integer> here = new TreeSet<>();
                    here.add(base[p]);
                    for (Entry e : epoch) {
                        if (e.sector() == p / 2) {
                            here.add(p % 2 == 0 ? e.a() : e.b());
                        }
                    }
                    options.add(here);
                }
                addAll(set, options, base.clone(), 0);
                for (Entry e : epoch) {
                    base[2 * e.sector()] = e.a();
                    base[2 * e.sector() + 1] = e.b();
                }
            }
            return new ArrayList<>(set);
        }

        private void addAll(TreeSet<int[]> set, List<TreeSet<Integer>> options, int[] made, int p) throws TooMany {
            if (p == 32) {
                set.add(made.clone());
                if (set.size() > 4096) {
                    throw new TooMany();
                }
                return;
            }
            for (int value : options.get(p)) {
                made[p] = value;
                addAll(set, options, made, p + 1);
            }
        }

        void becomes(int[] state) {
            for (int p = 0; p < 32; p++) {
                plate[p / 2][p % 2] = state[p];
            }
            queue.clear();
        }

        void format(int newKind) {
            kind = newKind;
            plate = new int[16][2];
            queue.clear();
            if (kind == 2) {
                plate[3] = new int[] {1, 38};
            }
        }

        int version() {
            int odd = read(3, 0);
            int even = read(7, 0);
            int version = 0;
            if (odd > 0 && odd % 2 == 1 && read(3, 1) == odd * 31 + 7) {
                version = odd;
            }
            if (even > version && even % 2 == 0 && read(7, 1) == even * 31 + 7) {
                version = even;
            }
            return version;
        }

        long get(int key) {
            int sector = key;
            if (kind == 2) {
                int n = version();
                if (n == 0) {
                    return 0;
                }
                sector = n % 2 == 0 ? 4 + key : key;
            }
            return ((long) read(sector, 0) << 32) + (read(sector, 1) & 0xFFFFFFFFL);
        }

        static int sum(int many, int... six) {
            int v = many;
            for (int x : six) {
                v = v * 31 + x;
            }
            return v * 2 + 1;
        }

        static int high(long v) {
            return (int) (v >>> 32);
        }

        static int low(long v) {
            return (int) (v & 0xFFFFFFFFL);
        }

        void put(int key, long v) {
            change(new int[] {key}, new long[] {v});
        }

        void move(int k, int l) {
            change(new int[] {l, k}, new long[] {get(k), 0});
        }

        private void change(int[] keys, long[] values) {
            if (kind == 0) {
                for (int i = 0; i < keys.length; i++) {
                    write(keys[i], high(values[i]), low(values[i]));
                }
            } else if (kind == 1) {
                changeLogged(keys, values);
            } else {
                changeShadow(keys, values);
            }
        }

        private void changeLogged(int[] keys, long[] values) {
            int k = keys[0];
            long v = values[0];
            int l = keys.length == 2 ? keys[1] : -1;
            long w = keys.length == 2 ? values[1] : 0;
            write(4, k, high(v));
            write(5, low(v), l);
            write(6, high(w), low(w));
            fence(0);
            write(3, keys.length, sum(keys.length, k, high(v), low(v), l, high(w), low(w)));
            fence(1);
            for (int i = 0; i < keys.length; i++) {
                write(keys[i], high(values[i]), low(values[i]));
            }
            fence(2);
            write(3, 0, 0);
            fence(3);
        }

        private void changeShadow(int[] keys, long[] values) {
            int n = version() + 1;
            long[] all = {get(0), get(1), get(2)};
            for (int i = 0; i < keys.length; i++) {
                all[keys[i]] = values[i];
            }
            for (int key = 0; key < 3; key++) {
                write(n % 2 == 0 ? 4 + key : key, high(all[key]), low(all[key]));
            }
            fence(0);
            write(n % 2 == 0 ? 7 : 3, n, 31 * n + 7);
            fence(1);
        }

        void rise() {
            if (kind != 1) {
                return;
            }
            int many = read(3, 0);
            int k = read(4, 0);
            int l = read(5, 1);
            boolean whole = (many == 1 || many == 2)
                && read(3, 1) == sum(many, k, read(4, 1), read(5, 0), l, read(6, 0), read(6, 1))
                && k >= 0 && k <= 2 && (many == 1 || l >= 0 && l <= 2);
            if (whole) {
                int[] forK = {read(4, 1), read(5, 0)};
                int[] forL = {read(6, 0), read(6, 1)};
                write(k, forK[0], forK[1]);
                if (many == 2) {
                    write(l, forL[0], forL[1]);
                }
                fence(2);
            }
            if (whole || many != 0 || read(3, 1) != 0) {
                write(3, 0, 0);
                fence(3);
            }
        }

        Machine copy() {
            Machine other = new Machine();
            for (int s = 0; s < 16; s++) {
                other.plate[s] = plate[s].clone();
            }
            other.queue.addAll(queue);
            other.kind = kind;
            other.spared = spared;
            other.writesEver = writesEver;
            return other;
        }
    }

    /** GOING THROUGH a SCRIPT; refused is set if it can't be. */
    static final class Journey {
        final int kind;
        final boolean[] spared;
        final List<Act> script;
        final int[] gone = new int[7];
        final List<int[]> bad = new ArrayList<>();
        final List<long[]> due = new ArrayList<>();
        boolean refused = false;
        private Machine machine;
        private int begun;
        private int sure;

        Journey(int kind, boolean[] spared, List<Act> script) {
            this.kind = kind;
            this.spared = spared;
            this.script = script;
            foresee();
            go();
        }

        private static void doAct(Machine m, Act act) {
            switch (act.what()) {
                case 'p' -> m.put(act.k(), act.v());
                case 'm' -> m.move(act.k(), act.l());
                default -> m.flush();
            }
        }

        private void foresee() {
            Machine m = new Machine();
            m.spared = spared;
            m.format(kind);
            due.add(new long[] {m.get(0), m.get(1), m.get(2)});
            for (Act act : script) {
                doAct(m, act);
                due.add(new long[] {m.get(0), m.get(1), m.get(2)});
            }
        }

        private void go() {
            machine = new Machine();
            machine.spared = spared;
            machine.format(kind);
            machine.afterWrite = () -> {
                gone[3]++;
                moment();
            };
            moment();
            for (int i = 0; i < script.size() && !refused; i++) {
                begun = i + 1;
                long fencesBefore = fences();
                doAct(machine, script.get(i));
                if (script.get(i).what() == 's') {
                    sure = begun;
                    gone[5]++;
                    moment();
                } else {
                    gone[4] += (int) (fences() - fencesBefore);
                }
                if (machine.queue.size() > 60) {
                    refused = true;
                }
            }
        }

        private long fences() {
            return machine.queue.stream().filter(Entry::isFence).count();
        }

        private void moment() {
            if (refused || machine.queue.size() > 60) {
                refused = true;
                return;
            }
            List<int[]> states;
            try {
                states = machine.states();
            } catch (TooMany e) {
                refused = true;
                return;
            }
            for (int i = 0; i < states.size(); i++) {
                Machine m = new Machine();
                m.spared = spared;
                m.kind = kind;
                m.becomes(states.get(i));
                m.rise();
                m.flush();
                long[] came = {m.get(0), m.get(1), m.get(2)};
                boolean right = false;
                for (int n = sure; n <= begun; n++) {
                    right |= Arrays.equals(came, due.get(n));
                }
                if (!right) {
                    gone[2]++;
                    bad.add(new int[] {gone[0], i, begun, sure,
                        Machine.high(came[0]), Machine.low(came[0]), Machine.high(came[1]),
                        Machine.low(came[1]), Machine.high(came[2]), Machine.low(came[2])});
                }
            }
            gone[0]++;
            gone[1] += states.size();
            gone[6] = Math.max(gone[6], states.size());
        }
    }

    private final int[] fencesOf = {0, 4, 2};
    private Machine machine = new Machine();
    private final boolean[][] spared = new boolean[3][4];
    private final List<Act> script = new ArrayList<>();
    private final int[] refusals = new int[7];
    private Journey latest = null;
    private int falls = 0;

    private int refuse(int number) {
        refusals[-number]++;
        return number;
    }

    private static boolean in(int x, int n) {
        return x >= 0 && x < n;
    }

    int write(int sector, int a, int b) {
        if (!in(sector, 16)) {
            return refuse(-1);
        }
        if (machine.queue.size() == 60) {
            return refuse(-6);
        }
        machine.write(sector, a, b);
        return machine.queue.size();
    }

    int fence() {
        if (machine.queue.size() == 60) {
            return refuse(-6);
        }
        machine.queue.add(new Entry(-1, 0, 0));
        return machine.queue.size();
    }

    int flush() {
        return machine.flush();
    }

    int read(int sector, int part) {
        if (!in(sector, 16) || !in(part, 2)) {
            throw new IndexOutOfBoundsException();
        }
        return machine.read(sector, part);
    }

    int plate(int sector, int part) {
        if (!in(sector, 16) || !in(part, 2)) {
            throw new IndexOutOfBoundsException();
        }
        return machine.plate[sector][part];
    }

    int entry(int i, int what) {
        if (!in(i, machine.queue.size())) {
            return refuse(-1);
        }
        Entry e = machine.queue.get(i);
        switch (what) {
            case 0: return e.sector();
            case 1: return e.a();
            case 2: return e.b();
            case 3: return e.isFence() ? -1 : epochOf(i);
            default: return -9;
        }
    }

    private int epochOf(int i) {
        Machine before = machine.copy();
        before.queue = new ArrayList<>(machine.queue.subList(0, i + 1));
        return before.epochs().size() - 1;
    }

    int states() {
        try {
            return machine.states().size();
        } catch (TooMany e) {
            return refuse(-6);
        }
    }

    /** For tests that choose a STATE: 0 if they are too many, and no REFUSAL. */
    int statesUncounted() {
        try {
            return machine.states().size();
        } catch (TooMany e) {
            return 0;
        }
    }

    int state(int i, int sector, int part) {
        List<int[]> states;
        try {
            states = machine.states();
        } catch (TooMany e) {
            throw new IndexOutOfBoundsException();
        }
        if (!in(sector, 16) || !in(part, 2) || !in(i, states.size())) {
            throw new IndexOutOfBoundsException();
        }
        return states.get(i)[2 * sector + part];
    }

    int fall(int i) {
        List<int[]> states;
        try {
            states = machine.states();
        } catch (TooMany e) {
            return refuse(-6);
        }
        if (!in(i, states.size())) {
            return refuse(-1);
        }
        machine.becomes(states.get(i));
        falls++;
        return 1;
    }

    int store(int kind) {
        if (!in(kind, 3)) {
            return refuse(-2);
        }
        machine.format(kind);
        machine.spared = spared[kind];
        return fencesOf[kind];
    }

    private int changed(Machine trial) {
        if (trial.queue.size() > 60) {
            return refuse(-6);
        }
        int came = trial.queue.size() - machine.queue.size();
        machine = trial;
        return came;
    }

    int put(int key, long v) {
        if (machine.kind < 0) {
            return refuse(-5);
        }
        if (!in(key, 3)) {
            return refuse(-1);
        }
        Machine trial = machine.copy();
        trial.put(key, v);
        return changed(trial);
    }

    int move(int k, int l) {
        if (machine.kind < 0) {
            return refuse(-5);
        }
        if (!in(k, 3) || !in(l, 3) || k == l) {
            return refuse(-1);
        }
        Machine trial = machine.copy();
        trial.move(k, l);
        return changed(trial);
    }

    long get(int key) {
        if (machine.kind < 0) {
            throw new IllegalStateException();
        }
        if (!in(key, 3)) {
            throw new IndexOutOfBoundsException();
        }
        return machine.get(key);
    }

    int rise() {
        if (machine.kind < 0 || !machine.queue.isEmpty()) {
            return refuse(-5);
        }
        machine.rise();
        return machine.queue.size();
    }

    boolean isSound() {
        switch (machine.kind) {
            case 0: return true;
            case 1: return machine.read(3, 0) == 0 && machine.read(3, 1) == 0;
            case 2: return machine.version() > 0;
            default: return false;
        }
    }

    private int add(Act act) {
        if (script.size() == 8) {
            return refuse(-6);
        }
        script.add(act);
        return script.size();
    }

    int addPut(int key, long v) {
        return in(key, 3) ? add(new Act('p', key, 0, v)) : refuse(-1);
    }

    int addMove(int k, int l) {
        return in(k, 3) && in(l, 3) && k != l ? add(new Act('m', k, l, 0)) : refuse(-1);
    }

    int addSure() {
        return add(new Act('s', 0, 0, 0));
    }

    int clear() {
        int n = script.size();
        script.clear();
        return n;
    }

    int through(int kind) {
        if (!in(kind, 3)) {
            return refuse(-2);
        }
        Journey journey = new Journey(kind, spared[kind], script);
        if (journey.refused) {
            return refuse(-6);
        }
        latest = journey;
        return journey.gone[2];
    }

    int gone(int what) {
        if (!in(what, 7)) {
            return -9;
        }
        return latest == null ? 0 : latest.gone[what];
    }

    int bad(int i, int what) {
        if (latest == null || !in(i, Math.min(50, latest.bad.size()))) {
            return refuse(-1);
        }
        return in(what, 10) ? latest.bad.get(i)[what] : -9;
    }

    boolean spare(int kind, int fence, boolean on) {
        if (!in(kind, 3) || !in(fence, fencesOf[kind]) || spared[kind][fence] == on) {
            return false;
        }
        spared[kind][fence] = on;
        return true;
    }

    int least(int kind) {
        if (!in(kind, 3)) {
            return refuse(-2);
        }
        boolean[] without = new boolean[4];
        Journey all = new Journey(kind, without, script);
        if (all.refused) {
            return refuse(-6);
        }
        if (all.gone[2] > 0) {
            return refuse(-5);
        }
        int bits = 0;
        for (int f = 0; f < fencesOf[kind]; f++) {
            without[f] = true;
            Journey journey = new Journey(kind, without, script);
            if (journey.refused || journey.gone[2] > 0) {
                without[f] = false;
                bits += 1 << f;
            }
        }
        return bits;
    }

    int digest(int what) {
        if (!in(what, 2)) {
            return -9;
        }
        int v = 0;
        for (int p = 0; p < 32; p++) {
            v = v * 31 + (what == 0 ? machine.plate[p / 2][p % 2] : machine.read(p / 2, p % 2));
        }
        return v;
    }

    int status(int what) {
        switch (what) {
            case 0: return machine.queue.size();
            case 1: return (int) machine.queue.stream().filter(e -> !e.isFence()).count();
            case 2: return machine.epochs().size();
            case 3: return machine.kind;
            case 4: return script.size();
            case 5: return machine.kind == 2 ? machine.version() : 0;
            case 6: return machine.writesEver;
            case 7: return falls;
            default: return what >= 11 && what <= 16 ? refusals[what - 10] : -9;
        }
    }
}
