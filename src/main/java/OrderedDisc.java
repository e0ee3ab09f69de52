import java.util.Arrays;

/**
 * A disc that may do its writes in any order but for fences, the states that a fall may leave on
 * it, and three kinds of stores written upon it. The document (DOC.md) has the words in capitals.
 */
public final class OrderedDisc {
    private static final int SECTORS = 16;
    private static final int ALL_PARTS = 2 * SECTORS;
    private static final int MOST_ENTRIES = 60;
    private static final int MOST_STATES = 4096;
    private static final int TOO_MANY = MOST_STATES + 1;
    private static final int KEYS = 3;
    private static final int KEY_PARTS = 2 * KEYS;
    private static final int MOST_ACTS = 8;
    private static final int MOST_KEPT = 50;

    private static final int NOBODY = -1;
    private static final int OTHER = -2;
    private static final int STATE = -5;
    private static final int ROOM = -6;
    private static final int NO_SUCH_WHAT = -9;

    private static final int NO_STORE = -1;
    private static final int NO_KEY = -1;

    private final Disc disc = new Disc();
    private final States fallen = new States();
    private final Plan plan = new Plan();
    private final Script script = new Script();
    private final Passage passage = new Passage();
    private final Kind[] kinds = {new Plain(), new Logged(), new Shadow()};
    private final int[] spared = new int[kinds.length];
    private final int[] refusals = new int[1 - ROOM];
    private int storeKind = NO_STORE;
    private int falls = 0;

    public OrderedDisc() {
    }

    public int write(int sector, int a, int b) {
        if (!isSector(sector)) {
            return refuse(NOBODY);
        }
        if (!disc.hasRoom(1)) {
            return refuse(ROOM);
        }
        disc.enqueueWrite(sector, a, b);
        return disc.entries;
    }

    public int fence() {
        if (!disc.hasRoom(1)) {
            return refuse(ROOM);
        }
        disc.enqueueFence();
        return disc.entries;
    }

    public int flush() {
        int done = disc.writes;
        disc.settle();
        return done;
    }

    public int read(int sector, int part) throws IndexOutOfBoundsException {
        if (!isPart(sector, part)) {
            throw new IndexOutOfBoundsException("no such PART");
        }
        return disc.now[2 * sector + part];
    }

    public int plate(int sector, int part) throws IndexOutOfBoundsException {
        if (!isPart(sector, part)) {
            throw new IndexOutOfBoundsException("no such PART");
        }
        return disc.plate[2 * sector + part];
    }

    public int entry(int i, int what) {
        if (i < 0 || i >= disc.entries) {
            return refuse(NOBODY);
        }
        switch (what) {
            case 0: return disc.sectors[i];
            case 1: return disc.firsts[i];
            case 2: return disc.seconds[i];
            case 3: return disc.epochOf[i];
            default: return NO_SUCH_WHAT;
        }
    }

    public int states() {
        fallen.refresh(disc);
        return fallen.count > MOST_STATES ? refuse(ROOM) : fallen.count;
    }

    public int state(int i, int sector, int part) throws IndexOutOfBoundsException {
        if (!isPart(sector, part)) {
            throw new IndexOutOfBoundsException("no such PART");
        }
        fallen.refresh(disc);
        if (fallen.count > MOST_STATES || i < 0 || i >= fallen.count) {
            throw new IndexOutOfBoundsException("no such STATE");
        }
        fallen.seek(i);
        return fallen.content[2 * sector + part];
    }

    public int fall(int i) {
        fallen.refresh(disc);
        if (fallen.count > MOST_STATES) {
            return refuse(ROOM);
        }
        if (i < 0 || i >= fallen.count) {
            return refuse(NOBODY);
        }
        fallen.seek(i);
        disc.comeUpWith(fallen.content);
        falls++;
        return 1;
    }

    public int store(int kind) {
        if (!isKind(kind)) {
            return refuse(OTHER);
        }
        storeKind = kind;
        disc.format(kinds[kind]);
        return kinds[kind].fences();
    }

    public int put(int key, long v) {
        if (!hasStore()) {
            return refuse(STATE);
        }
        if (!isKey(key)) {
            return refuse(NOBODY);
        }
        plan.begin(spared[storeKind]);
        kinds[storeKind].planPut(disc.now, key, v, plan);
        return carryOut();
    }

    public int move(int k, int l) {
        if (!hasStore()) {
            return refuse(STATE);
        }
        if (!areTwoKeys(k, l)) {
            return refuse(NOBODY);
        }
        plan.begin(spared[storeKind]);
        kinds[storeKind].planMove(disc.now, k, l, plan);
        return carryOut();
    }

    public long get(int key) throws IllegalStateException, IndexOutOfBoundsException {
        if (!hasStore()) {
            throw new IllegalStateException("no store");
        }
        if (!isKey(key)) {
            throw new IndexOutOfBoundsException("no such KEY");
        }
        return kinds[storeKind].valueOf(disc.now, key);
    }

    public int rise() {
        if (!hasStore() || disc.entries > 0) {
            return refuse(STATE);
        }
        plan.begin(spared[storeKind]);
        kinds[storeKind].planRising(disc.now, plan);
        return carryOut();
    }

    public boolean isSound() {
        return hasStore() && kinds[storeKind].allIsWell(disc.now);
    }

    public int addPut(int key, long v) {
        if (!isKey(key)) {
            return refuse(NOBODY);
        }
        return addAct(Script.PUT, key, NO_KEY, v);
    }

    public int addMove(int k, int l) {
        if (!areTwoKeys(k, l)) {
            return refuse(NOBODY);
        }
        return addAct(Script.MOVE, k, l, 0L);
    }

    public int addSure() {
        return addAct(Script.SURE, NO_KEY, NO_KEY, 0L);
    }

    public int clear() {
        int had = script.acts;
        script.acts = 0;
        return had;
    }

    public int through(int kind) {
        if (!isKind(kind)) {
            return refuse(OTHER);
        }
        if (!passage.walk(kinds[kind], spared[kind], script, false)) {
            return refuse(ROOM);
        }
        passage.keepReport();
        return passage.kept.tally[Report.BAD];
    }

    public int gone(int what) {
        if (what < 0 || what >= Report.TALLIES) {
            return NO_SUCH_WHAT;
        }
        return passage.kept.tally[what];
    }

    public int bad(int i, int what) {
        if (i < 0 || i >= passage.kept.rows) {
            return refuse(NOBODY);
        }
        if (what < 0 || what >= Report.ROW) {
            return NO_SUCH_WHAT;
        }
        return passage.kept.bad[i * Report.ROW + what];
    }

    public boolean spare(int kind, int fence, boolean on) {
        if (!isKind(kind) || fence < 0 || fence >= kinds[kind].fences()) {
            return false;
        }
        int after = on ? spared[kind] | 1 << fence : spared[kind] & ~(1 << fence);
        boolean changed = after != spared[kind];
        spared[kind] = after;
        return changed;
    }

    public int least(int kind) {
        if (!isKind(kind)) {
            return refuse(OTHER);
        }
        if (!passage.walk(kinds[kind], 0, script, false)) {
            return refuse(ROOM);
        }
        if (passage.report.tally[Report.BAD] > 0) {
            return refuse(STATE);
        }
        int needed = 0;
        int without = 0;
        for (int f = 0; f < kinds[kind].fences(); f++) {
            int bit = 1 << f;
            if (passage.walk(kinds[kind], without | bit, script, true)) {
                without |= bit;
            } else {
                needed |= bit;
            }
        }
        return needed;
    }

    public int digest(int what) {
        if (what != 0 && what != 1) {
            return NO_SUCH_WHAT;
        }
        int[] parts = what == 0 ? disc.plate : disc.now;
        int v = 0;
        for (int p = 0; p < ALL_PARTS; p++) {
            v = 31 * v + parts[p];
        }
        return v;
    }

    public int status(int what) {
        if (what >= 11 && what <= 10 - ROOM) {
            return refusals[what - 10];
        }
        switch (what) {
            case 0: return disc.entries;
            case 1: return disc.writes;
            case 2: return disc.epochs;
            case 3: return storeKind;
            case 4: return script.acts;
            case 5: return hasStore() ? kinds[storeKind].version(disc.now) : 0;
            case 6: return disc.writesEver;
            case 7: return falls;
            default: return NO_SUCH_WHAT;
        }
    }

    private int refuse(int number) {
        if (number <= NOBODY && number >= ROOM) {
            refusals[-number]++;
        }
        return number;
    }

    private int carryOut() {
        if (!disc.hasRoom(plan.size)) {
            return refuse(ROOM);
        }
        for (int i = 0; i < plan.size; i++) {
            disc.enqueuePlanned(plan, i);
        }
        return plan.size;
    }

    private int addAct(int act, int k, int l, long v) {
        if (script.acts >= MOST_ACTS) {
            return refuse(ROOM);
        }
        script.append(act, k, l, v);
        return script.acts;
    }

    private boolean hasStore() {
        return isKind(storeKind);
    }

    private boolean isKind(int kind) {
        return kind >= 0 && kind < kinds.length;
    }

    private static boolean isSector(int sector) {
        return sector >= 0 && sector < SECTORS;
    }

    private static boolean isPart(int sector, int part) {
        return isSector(sector) && (part == 0 || part == 1);
    }

    private static boolean isKey(int key) {
        return key >= 0 && key < KEYS;
    }

    private static boolean areTwoKeys(int k, int l) {
        return isKey(k) && isKey(l) && k != l;
    }

    private static int high(long v) {
        return (int) (v >> 32);
    }

    private static int low(long v) {
        return (int) v;
    }

    /** The PLATE and the QUEUE. */
    private static final class Disc {
        static final int FENCE = -1;

        final int[] plate = new int[ALL_PARTS];
        // As READ; kept beside the PLATE so that no READ has to go through the QUEUE.
        final int[] now = new int[ALL_PARTS];
        final int[] sectors = new int[MOST_ENTRIES];
        final int[] firsts = new int[MOST_ENTRIES];
        final int[] seconds = new int[MOST_ENTRIES];
        final int[] epochOf = new int[MOST_ENTRIES];
        int entries = 0;
        int writes = 0;
        int epochs = 0;
        boolean fenced = false;
        // A bit for each SECTOR that has a WRITE in the QUEUE.
        int touched = 0;
        int writesEver = 0;
        // Tells whoever keeps something worked out from this disc that it is out of date.
        int edits = 0;

        boolean hasRoom(int more) {
            return entries + more <= MOST_ENTRIES;
        }

        void enqueueWrite(int sector, int a, int b) {
            if (!isSector(sector) || entries >= MOST_ENTRIES) {
                return;
            }
            // An EPOCH begins with its first WRITE: fences with nothing between them make none.
            if (epochs == 0 || fenced) {
                epochs++;
                fenced = false;
            }
            sectors[entries] = sector;
            firsts[entries] = a;
            seconds[entries] = b;
            epochOf[entries] = epochs - 1;
            now[2 * sector] = a;
            now[2 * sector + 1] = b;
            touched |= 1 << sector;
            entries++;
            writes++;
            writesEver++;
            edits++;
        }

        void enqueueFence() {
            if (entries >= MOST_ENTRIES) {
                return;
            }
            sectors[entries] = FENCE;
            firsts[entries] = 0;
            seconds[entries] = 0;
            epochOf[entries] = -1;
            entries++;
            fenced = true;
            edits++;
        }

        void enqueuePlanned(Plan plan, int i) {
            if (plan.isFence(i)) {
                enqueueFence();
            } else {
                enqueueWrite(plan.sectors[i], plan.firsts[i], plan.seconds[i]);
            }
        }

        void settle() {
            comeUpWith(now);
        }

        void format(Kind kind) {
            Arrays.fill(now, 0);
            kind.layOut(now);
            comeUpWith(now);
        }

        void comeUpWith(int[] content) {
            for (int p = 0; p < ALL_PARTS; p++) {
                plate[p] = content[p];
                now[p] = content[p];
            }
            entries = 0;
            writes = 0;
            epochs = 0;
            fenced = false;
            touched = 0;
            edits++;
        }
    }

    /**
     * All STATES of a disc, by number, without a list of them. For each PART in which they can
     * differ, a level, it has the ints that can be there, lesser ones first, and with each of them
     * the EPOCHS (as bits) that can leave it. A STATE is one int for each level such that some
     * EPOCH is common to all of them; so going down the levels in order gives every STATE once, in
     * its due place.
     */
    private static final class States {
        // Each touched PART has what it was and what WRITES give it, and a WRITE gives two PARTS.
        static final int MOST_INTS = 2 * (SECTORS + MOST_ENTRIES);
        // Each EPOCH but the first has a FENCE of its own ahead of it.
        static final int MOST_EPOCHS = (MOST_ENTRIES + 1) / 2;
        static final int ALONE_ROW = ALL_PARTS + 1;

        final int[] content = new int[ALL_PARTS];
        final int[] open = new int[ALL_PARTS];
        // The ints of a level are from its start up to the start of the next one.
        final int[] start = new int[ALL_PARTS + 1];
        final int[] ints = new int[MOST_INTS];
        final int[] leavers = new int[MOST_INTS];
        // A row for each EPOCH: how many STATES it has, alone, from a level on.
        final int[] alone = new int[MOST_EPOCHS * ALONE_ROW];
        final int[] picked = new int[ALL_PARTS];
        final int[] common = new int[ALL_PARTS + 1];
        int levels = 0;
        int end = 0;
        int epochs = 1;
        int count = 1;
        int place = -1;
        int seenEdits = -1;

        /** Always with the same disc: what is here stays as long as that one is not edited. */
        void refresh(Disc disc) {
            if (seenEdits == disc.edits) {
                return;
            }
            seenEdits = disc.edits;
            place = -1;
            levels = 0;
            end = 0;
            // A QUEUE without WRITES is as one EPOCH that changes nothing.
            epochs = Math.min(Math.max(disc.epochs, 1), MOST_EPOCHS);
            for (int p = 0; p < ALL_PARTS; p++) {
                content[p] = disc.plate[p];
                if ((disc.touched >> (p >> 1) & 1) != 0) {
                    gather(disc, p);
                }
            }
            countAlone();
            common[0] = span(0, epochs - 1);
            count = countFrom(0, common[0]);
        }

        private void gather(Disc disc, int p) {
            int[] given = (p & 1) == 0 ? disc.firsts : disc.seconds;
            int standing = disc.plate[p];
            int nextEpoch = 0;
            start[levels] = end;
            for (int i = 0; i < disc.entries; i++) {
                if (disc.sectors[i] != p >> 1) {
                    continue;
                }
                int epoch = disc.epochOf[i];
                if (epoch >= nextEpoch) {
                    allow(standing, span(nextEpoch, epoch));
                    nextEpoch = epoch + 1;
                }
                standing = given[i];
                allow(standing, span(epoch, epoch));
            }
            if (nextEpoch < epochs) {
                allow(standing, span(nextEpoch, epochs - 1));
            }
            if (end - start[levels] > 1) {
                open[levels] = p;
                levels++;
                start[levels] = end;
            } else {
                end = start[levels];
            }
        }

        /** An int of the PART that is gathered now, by some EPOCHS. */
        private void allow(int value, int byEpochs) {
            int at = start[levels];
            while (at < end && ints[at] < value) {
                at++;
            }
            if (at < end && ints[at] == value) {
                leavers[at] |= byEpochs;
                return;
            }
            if (end >= MOST_INTS) {
                return;
            }
            for (int j = end; j > at; j--) {
                ints[j] = ints[j - 1];
                leavers[j] = leavers[j - 1];
            }
            ints[at] = value;
            leavers[at] = byEpochs;
            end++;
        }

        private static int span(int first, int last) {
            return ((1 << (last - first + 1)) - 1) << first;
        }

        private void countAlone() {
            for (int epoch = 0; epoch < epochs; epoch++) {
                int row = epoch * ALONE_ROW;
                alone[row + levels] = 1;
                for (int level = levels - 1; level >= 0; level--) {
                    int many = alone[row + level + 1] * choicesOf(epoch, level);
                    alone[row + level] = Math.min(TOO_MANY, many);
                }
            }
        }

        private int choicesOf(int epoch, int level) {
            int many = 0;
            for (int j = start[level]; j < start[level + 1]; j++) {
                many += leavers[j] >> epoch & 1;
            }
            return many;
        }

        /** How many STATES go on from a level with these EPOCHS in common; TOO_MANY at most. */
        private int countFrom(int level, int epochsLeft) {
            if (epochsLeft == 0) {
                return 0;
            }
            if (level >= levels) {
                return 1;
            }
            if ((epochsLeft & (epochsLeft - 1)) == 0) {
                return alone[Integer.bitCount(epochsLeft - 1) * ALONE_ROW + level];
            }
            int total = 0;
            for (int j = start[level]; j < start[level + 1] && total <= MOST_STATES; j++) {
                total += countFrom(level + 1, epochsLeft & leavers[j]);
            }
            return Math.min(TOO_MANY, total);
        }

        /** Makes content STATE i; i is below count, and count at most MOST_STATES. */
        void seek(int i) {
            if (place >= 0 && i == place + 1) {
                advance();
            } else if (i != place) {
                descend(i);
            }
            place = i;
        }

        private void advance() {
            int level = levels - 1;
            while (level >= 0 && !step(level)) {
                level--;
            }
            for (int next = level + 1; next < levels; next++) {
                picked[next] = start[next] - 1;
                step(next);
            }
        }

        /** To the next int of a level that an EPOCH common to the levels above can leave. */
        private boolean step(int level) {
            for (int j = picked[level] + 1; j < start[level + 1]; j++) {
                if ((common[level] & leavers[j]) != 0) {
                    pick(level, j);
                    return true;
                }
            }
            return false;
        }

        private void descend(int i) {
            int ahead = i;
            for (int level = 0; level < levels; level++) {
                for (int j = start[level]; j < start[level + 1]; j++) {
                    int here = countFrom(level + 1, common[level] & leavers[j]);
                    if (ahead < here) {
                        pick(level, j);
                        break;
                    }
                    ahead -= here;
                }
            }
        }

        private void pick(int level, int j) {
            picked[level] = j;
            content[open[level]] = ints[j];
            common[level + 1] = common[level] & leavers[j];
        }
    }

    /** ENTRIES that are to come into a QUEUE, so that their room can be looked at first. */
    private static final class Plan {
        // A MOVE of LOGGED, the longest: seven WRITES and four FENCES.
        static final int MOST = 11;

        final int[] sectors = new int[MOST];
        final int[] firsts = new int[MOST];
        final int[] seconds = new int[MOST];
        int size = 0;
        int sparedFences = 0;

        void begin(int spared) {
            size = 0;
            sparedFences = spared;
        }

        void planWrite(int sector, int a, int b) {
            if (size < MOST) {
                sectors[size] = sector;
                firsts[size] = a;
                seconds[size] = b;
                size++;
            }
        }

        void planFence(int f) {
            if (size < MOST && (sparedFences >> f & 1) == 0) {
                sectors[size] = Disc.FENCE;
                size++;
            }
        }

        boolean isFence(int i) {
            return sectors[i] == Disc.FENCE;
        }

        void writeInto(int[] content) {
            for (int i = 0; i < size; i++) {
                if (!isFence(i)) {
                    content[2 * sectors[i]] = firsts[i];
                    content[2 * sectors[i] + 1] = seconds[i];
                }
            }
        }
    }

    /** How a KIND of store lays its KEYS out. The content is always the PARTS as READ. */
    private abstract static class Kind {
        static final int NOWHERE = -1;

        abstract int fences();

        /** The SECTOR of KEY 0, behind which the others follow; NOWHERE if all KEYS are 0. */
        abstract int homeOfKeys(int[] content);

        abstract boolean allIsWell(int[] content);

        /** A CHANGE of KEY k to v and, unless l is NO_KEY, of KEY l to w. */
        abstract void planChange(int[] content, int k, long v, int l, long w, Plan plan);

        void planRising(int[] content, Plan plan) {
        }

        void layOut(int[] blank) {
        }

        int version(int[] content) {
            return 0;
        }

        final void planPut(int[] content, int key, long v, Plan plan) {
            planChange(content, key, v, NO_KEY, 0L, plan);
        }

        final void planMove(int[] content, int k, int l, Plan plan) {
            planChange(content, l, valueOf(content, k), k, 0L, plan);
        }

        final long valueOf(int[] content, int key) {
            return valueAt(content, homeOfKeys(content), key);
        }

        static long valueAt(int[] content, int home, int key) {
            if (home == NOWHERE) {
                return 0L;
            }
            int at = 2 * (home + key);
            return ((long) content[at] << 32) | (content[at + 1] & 0xFFFFFFFFL);
        }
    }

    private static final class Plain extends Kind {
        int fences() {
            return 0;
        }

        int homeOfKeys(int[] content) {
            return 0;
        }

        boolean allIsWell(int[] content) {
            return true;
        }

        void planChange(int[] content, int k, long v, int l, long w, Plan plan) {
            plan.planWrite(k, high(v), low(v));
            if (l != NO_KEY) {
                plan.planWrite(l, high(w), low(w));
            }
        }
    }

    private static final class Logged extends Kind {
        static final int MARK = 3;
        static final int LOG = 4;

        int fences() {
            return 4;
        }

        int homeOfKeys(int[] content) {
            return 0;
        }

        boolean allIsWell(int[] content) {
            return content[2 * MARK] == 0 && content[2 * MARK + 1] == 0;
        }

        void planChange(int[] content, int k, long v, int l, long w, Plan plan) {
            int many = l == NO_KEY ? 1 : 2;
            int sum = sum(many, k, high(v), low(v), l, high(w), low(w));
            plan.planWrite(LOG, k, high(v));
            plan.planWrite(LOG + 1, low(v), l);
            plan.planWrite(LOG + 2, high(w), low(w));
            plan.planFence(0);
            plan.planWrite(MARK, many, sum);
            plan.planFence(1);
            plan.planWrite(k, high(v), low(v));
            if (l != NO_KEY) {
                plan.planWrite(l, high(w), low(w));
            }
            plan.planFence(2);
            planUnmark(plan);
        }

        void planRising(int[] content, Plan plan) {
            if (isLogWhole(content)) {
                int at = 2 * LOG;
                plan.planWrite(content[at], content[at + 1], content[at + 2]);
                if (content[2 * MARK] == 2) {
                    plan.planWrite(content[at + 3], content[at + 4], content[at + 5]);
                }
                plan.planFence(2);
                planUnmark(plan);
            } else if (!allIsWell(content)) {
                planUnmark(plan);
            }
        }

        private static void planUnmark(Plan plan) {
            plan.planWrite(MARK, 0, 0);
            plan.planFence(3);
        }

        private static boolean isLogWhole(int[] content) {
            int many = content[2 * MARK];
            int at = 2 * LOG;
            if (many != 1 && many != 2 || !isKey(content[at])) {
                return false;
            }
            if (many == 2 && !isKey(content[at + 3])) {
                return false;
            }
            return content[2 * MARK + 1] == sum(many, content[at], content[at + 1], content[at + 2],
                content[at + 3], content[at + 4], content[at + 5]);
        }

        private static int sum(int many, int k, int highK, int lowK, int l, int highL, int lowL) {
            int v = many;
            v = 31 * v + k;
            v = 31 * v + highK;
            v = 31 * v + lowK;
            v = 31 * v + l;
            v = 31 * v + highL;
            v = 31 * v + lowL;
            return 2 * v + 1;
        }
    }

    private static final class Shadow extends Kind {
        static final int ODD_ROOT = 3;
        static final int EVEN_ROOT = 7;
        static final int ODD_HOME = 0;
        static final int EVEN_HOME = 4;

        int fences() {
            return 2;
        }

        int homeOfKeys(int[] content) {
            int n = version(content);
            return n == 0 ? NOWHERE : homeWith(n);
        }

        boolean allIsWell(int[] content) {
            return version(content) > 0;
        }

        void planChange(int[] content, int k, long v, int l, long w, Plan plan) {
            int n = version(content) + 1;
            int home = homeOfKeys(content);
            for (int key = 0; key < KEYS; key++) {
                long x = key == k ? v : key == l ? w : valueAt(content, home, key);
                plan.planWrite(homeWith(n) + key, high(x), low(x));
            }
            plan.planFence(0);
            plan.planWrite(isOdd(n) ? ODD_ROOT : EVEN_ROOT, n, seal(n));
            plan.planFence(1);
        }

        void layOut(int[] blank) {
            blank[2 * ODD_ROOT] = 1;
            blank[2 * ODD_ROOT + 1] = seal(1);
        }

        int version(int[] content) {
            int odd = content[2 * ODD_ROOT];
            int even = content[2 * EVEN_ROOT];
            boolean oddIsGood = odd > 0 && isOdd(odd) && content[2 * ODD_ROOT + 1] == seal(odd);
            boolean evenIsGood = even > 0 && !isOdd(even) && content[2 * EVEN_ROOT + 1] == seal(even);
            return Math.max(oddIsGood ? odd : 0, evenIsGood ? even : 0);
        }

        private static int homeWith(int n) {
            return isOdd(n) ? ODD_HOME : EVEN_HOME;
        }

        // The last bit and not n % 2 == 1: behind the greatest int n goes round below 0.
        private static boolean isOdd(int n) {
            return (n & 1) != 0;
        }

        private static int seal(int n) {
            return 31 * n + 7;
        }
    }

    private static final class Script {
        static final int PUT = 0;
        static final int MOVE = 1;
        static final int SURE = 2;

        final int[] what = new int[MOST_ACTS];
        final int[] keys = new int[MOST_ACTS];
        final int[] others = new int[MOST_ACTS];
        final long[] values = new long[MOST_ACTS];
        int acts = 0;

        void append(int act, int k, int l, long v) {
            if (acts < MOST_ACTS) {
                what[acts] = act;
                keys[acts] = k;
                others[acts] = l;
                values[acts] = v;
                acts++;
            }
        }

        /** Row n of due: the PARTS of the KEYS behind the first n ACTS, the same for each KIND. */
        void foresee(int[][] due) {
            Arrays.fill(due[0], 0);
            for (int i = 0; i < acts; i++) {
                int[] row = due[i + 1];
                System.arraycopy(due[i], 0, row, 0, KEY_PARTS);
                int k = 2 * keys[i];
                int l = 2 * others[i];
                if (what[i] == PUT) {
                    row[k] = high(values[i]);
                    row[k + 1] = low(values[i]);
                } else if (what[i] == MOVE) {
                    row[l] = row[k];
                    row[l + 1] = row[k + 1];
                    row[k] = 0;
                    row[k + 1] = 0;
                }
            }
        }
    }

    /** What a GOING THROUGH found. The tallies and the rows stand as gone() and bad() number them. */
    private static final class Report {
        static final int MOMENTS = 0;
        static final int SEEN = 1;
        static final int BAD = 2;
        static final int WRITES = 3;
        static final int FENCES = 4;
        static final int FLUSHES = 5;
        static final int MOST_AT_ONCE = 6;
        static final int TALLIES = 7;
        static final int ROW = 4 + KEY_PARTS;

        final int[] tally = new int[TALLIES];
        final int[] bad = new int[MOST_KEPT * ROW];
        int rows = 0;

        void begin() {
            Arrays.fill(tally, 0);
            rows = 0;
        }
    }

    /** GOING THROUGH a SCRIPT, on a disc of its own. */
    private static final class Passage {
        final Disc disc = new Disc();
        final States states = new States();
        final Plan acting = new Plan();
        final Plan rising = new Plan();
        final int[][] due = new int[MOST_ACTS + 1][KEY_PARTS];
        final int[] risen = new int[ALL_PARTS];
        final int[] cameOut = new int[KEY_PARTS];
        Kind kind = new Plain();
        // Two reports: a going through that is refused, or that LEAST does, leaves the kept one whole.
        Report kept = new Report();
        Report report = new Report();
        int spared = 0;
        int begun = 0;
        int sure = 0;
        boolean noBad = false;

        /** False if it can't be gone through or, with noBad, as soon as something is BAD. */
        boolean walk(Kind kind, int spared, Script script, boolean noBad) {
            this.kind = kind;
            this.spared = spared;
            this.noBad = noBad;
            begun = 0;
            sure = 0;
            report.begin();
            script.foresee(due);
            disc.format(kind);
            boolean goesOn = lookAround();
            for (int i = 0; i < script.acts && goesOn; i++) {
                begun = i + 1;
                goesOn = script.what[i] == Script.SURE ? makeSure() : change(script, i);
            }
            return goesOn;
        }

        void keepReport() {
            Report before = kept;
            kept = report;
            report = before;
        }

        private boolean makeSure() {
            disc.settle();
            sure = begun;
            report.tally[Report.FLUSHES]++;
            return lookAround();
        }

        private boolean change(Script script, int i) {
            acting.begin(spared);
            if (script.what[i] == Script.PUT) {
                kind.planPut(disc.now, script.keys[i], script.values[i], acting);
            } else {
                kind.planMove(disc.now, script.keys[i], script.others[i], acting);
            }
            boolean goesOn = disc.hasRoom(acting.size);
            for (int j = 0; j < acting.size && goesOn; j++) {
                disc.enqueuePlanned(acting, j);
                if (acting.isFence(j)) {
                    report.tally[Report.FENCES]++;
                } else {
                    report.tally[Report.WRITES]++;
                    goesOn = lookAround();
                }
            }
            return goesOn;
        }

        /** A MOMENT. */
        private boolean lookAround() {
            states.refresh(disc);
            int count = states.count;
            if (count > MOST_STATES) {
                return false;
            }
            for (int i = 0; i < count; i++) {
                states.seek(i);
                riseFrom(states.content);
                if (!isRight()) {
                    keepBad(i);
                }
            }
            int[] tally = report.tally;
            tally[Report.MOMENTS]++;
            tally[Report.SEEN] += count;
            tally[Report.MOST_AT_ONCE] = Math.max(tally[Report.MOST_AT_ONCE], count);
            return !noBad || tally[Report.BAD] == 0;
        }

        private void riseFrom(int[] state) {
            rising.begin(spared);
            kind.planRising(state, rising);
            int[] content = state;
            if (rising.size > 0) {
                // A copy, since the next STATE is made from this one by what differs.
                System.arraycopy(state, 0, risen, 0, ALL_PARTS);
                rising.writeInto(risen);
                content = risen;
            }
            int home = kind.homeOfKeys(content);
            for (int j = 0; j < KEY_PARTS; j++) {
                cameOut[j] = home == Kind.NOWHERE ? 0 : content[2 * home + j];
            }
        }

        private boolean isRight() {
            for (int n = sure; n <= begun; n++) {
                int[] row = due[n];
                int same = 0;
                while (same < KEY_PARTS && row[same] == cameOut[same]) {
                    same++;
                }
                if (same == KEY_PARTS) {
                    return true;
                }
            }
            return false;
        }

        private void keepBad(int i) {
            report.tally[Report.BAD]++;
            if (report.rows < MOST_KEPT) {
                int row = report.rows * Report.ROW;
                report.bad[row] = report.tally[Report.MOMENTS];
                report.bad[row + 1] = i;
                report.bad[row + 2] = begun;
                report.bad[row + 3] = sure;
                System.arraycopy(cameOut, 0, report.bad, row + 4, KEY_PARTS);
                report.rows++;
            }
        }
    }
}
