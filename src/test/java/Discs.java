/** What several tests do with an OrderedDisc, to bring it where they want it. */
final class Discs {
    private Discs() {
    }

    static OrderedDisc stored(int kind) {
        OrderedDisc x = new OrderedDisc();
        x.store(kind);
        return x;
    }

    /** FENCES, till the QUEUE has so many ENTRIES. */
    static void fill(OrderedDisc x, int entries) {
        while (x.status(0) < entries) {
            x.fence();
        }
    }

    /** WRITES (a SECTOR, two ints), then FLUSH. */
    static void setPlate(OrderedDisc x, int[][] writes) {
        for (int[] w : writes) {
            x.write(w[0], w[1], w[2]);
        }
        x.flush();
    }

    /** A WRITE of (1, 1) into each of the first SECTORS: 4 STATES for each of them. */
    static void writeOnes(OrderedDisc x, int sectors) {
        for (int s = 0; s < sectors; s++) {
            x.write(s, 1, 1);
        }
    }

    /** The QUEUE, ENTRY by ENTRY: "3:1,2" for a WRITE, "-" for a FENCE. */
    static String queue(OrderedDisc x) {
        StringBuilder text = new StringBuilder();
        int entries = x.status(0);
        for (int i = 0; i < entries; i++) {
            text.append(i == 0 ? "" : " ");
            int sector = x.entry(i, 0);
            if (sector < 0) {
                text.append("-");
            } else {
                text.append(sector).append(":").append(x.entry(i, 1)).append(",").append(x.entry(i, 2));
            }
        }
        return text.toString();
    }
}
