/**
 * Works out bounds that the rows of the class rest on, for all that there can be: PLACES and OUTCOMES of any
 * PROGRAM, beginnings of ORDERS, and the bits of all STATES together.
 */
public final class BoundTest {
    private static final int WRITE = 0;
    private static final int LOAD = 1;
    private static final int STORE = 2;
    private static final int RAISE = 3;
    private static final int TAKE = 5;
    private static final int SWAP = 6;

    private static int wrong = 0;

    private static void atMost(String what, long most, long told, long room) {
        System.out.println("BoundTest: " + what + ": at most " + most + ", there is room for " + room);
        if (most != told || most > room) {
            wrong++;
            System.out.println("  " + told + " was told");
        }
    }

    public static void main(String[] args) {
        programs();
        atMost("beginnings of ORDERS", beginnings(), 5248, 8192);
        atMost("bits of STATES", bits(), 51, 63 - 9);
        if (wrong > 0) {
            System.exit(1);
        }
    }

    /**
     * What a PART of three STEPS can be at, by how many of them are done and how many of what they put was flushed.
     * What its HAND and BUFFER hold then, and what it has put, follows of what its LOADS and SWAPS were answered.
     */
    private static final class Part {
        /** For each of these: how many LOADS still matter, how many SWAPS are done, how many CELLS it can have written to. */
        final int[] loads = new int[10];
        final int[] swaps = new int[10];
        final int[] writes = new int[10];
        int size = 0;
        /** How many digits it can bring into CELLS: by WRITE and SWAP, "1" by TAKE and SWAP, how many RAISES with a STORE behind. */
        int values = 0;
        boolean hasOne = false;
        int raises = 0;

        Part(int[] kinds) {
            for (int step = 0; step < 3; step++) {
                values += kinds[step] == WRITE || kinds[step] == SWAP ? 1 : 0;
                hasOne |= kinds[step] == TAKE || kinds[step] == SWAP;
                boolean isStored = false;
                for (int later = step + 1; later < 3; later++) {
                    isStored |= kinds[later] == STORE;
                }
                raises += kinds[step] == RAISE && isStored ? 1 : 0;
            }
            for (int done = 0; done <= 3; done++) {
                at(kinds, done);
            }
        }

        private void at(int[] kinds, int done) {
            int puts = 0;
            int leastFlushed = 0;
            boolean[] matters = new boolean[3];
            int last = -1;
            for (int step = 0; step < done; step++) {
                int kind = kinds[step];
                if (kind == LOAD || kind == SWAP) {
                    last = step;
                }
                if (kind == STORE && last >= 0) {
                    matters[last] = true;
                }
                puts += isPut(kind) ? 1 : 0;
                leastFlushed = kind > RAISE ? puts : leastFlushed;
            }
            if (last >= 0) {
                matters[last] = true;
            }
            for (int flushed = leastFlushed; flushed <= puts; flushed++) {
                int put = 0;
                for (int step = 0; step < done; step++) {
                    int kind = kinds[step];
                    loads[size] += kind == LOAD && matters[step] ? 1 : 0;
                    swaps[size] += kind == SWAP ? 1 : 0;
                    writes[size] += isPut(kind) && put < flushed || kind == TAKE || kind == SWAP ? 1 : 0;
                    put += isPut(kind) ? 1 : 0;
                }
                size++;
            }
        }

        private static boolean isPut(int kind) {
            return kind == WRITE || kind == STORE;
        }
    }

    /** With so many writes of three PARTS to three CELLS: in how many ways one of them can have been the last at each CELL. */
    private static long lastWriters(int writes) {
        long most = 1;
        for (int a = 0; a <= 3; a++) {
            for (int b = 0; b <= 3; b++) {
                for (int c = 0; c <= 3; c++) {
                    if (a + b + c <= writes) {
                        most = Math.max(most, Math.max(a, 1) * Math.max(b, 1) * Math.max(c, 1));
                    }
                }
            }
        }
        return most;
    }

    private static void programs() {
        Part[] parts = new Part[343];
        for (int number = 0; number < 343; number++) {
            parts[number] = new Part(new int[] {number / 49, number / 7 % 7, number % 7});
        }
        long[] lasts = new long[10];
        for (int writes = 0; writes < 10; writes++) {
            lasts[writes] = lastWriters(writes);
        }
        long places = 0;
        long outcomes = 0;
        for (int one = 0; one < 343; one++) {
            for (int two = one; two < 343; two++) {
                for (int three = two; three < 343; three++) {
                    Part a = parts[one];
                    Part b = parts[two];
                    Part c = parts[three];
                    long digits = (1 + a.values + b.values + c.values + (a.hasOne || b.hasOne || c.hasOne ? 1 : 0))
                            << (a.raises + b.raises + c.raises);
                    long sum = 0;
                    long last = 0;
                    long[] answers = powers(Math.min(digits, 10));
                    for (int i = 0; i < a.size; i++) {
                        for (int j = 0; j < b.size; j++) {
                            for (int k = 0; k < c.size; k++) {
                                last = (answers[a.loads[i] + b.loads[j] + c.loads[k]] << (a.swaps[i] + b.swaps[j] + c.swaps[k]))
                                        * lasts[a.writes[i] + b.writes[j] + c.writes[k]];
                                sum += last;
                            }
                        }
                    }
                    places = Math.max(places, sum);
                    // the last one is that with all done and flushed
                    outcomes = Math.max(outcomes, last);
                }
            }
        }
        atMost("PLACES", places, 553399, 1 << 20);
        atMost("OUTCOMES", outcomes, 294912, 1 << 19);
    }

    private static long[] powers(long base) {
        long[] all = new long[10];
        all[0] = 1;
        for (int i = 1; i < 10; i++) {
            all[i] = all[i - 1] * base;
        }
        return all;
    }

    /** The CALLS of each THREAD stand in their order in each ORDER, so a beginning is a row of THREADS. */
    private static long beginnings() {
        long most = 0;
        for (int a = 0; a <= 9; a++) {
            for (int b = 0; a + b <= 9; b++) {
                long[][][] ways = new long[10][10][10];
                long sum = 0;
                for (int i = 0; i <= a; i++) {
                    for (int j = 0; j <= b; j++) {
                        for (int k = 0; k <= 9 - a - b; k++) {
                            long way = i + j + k == 0 ? 1 : 0;
                            way += i > 0 ? ways[i - 1][j][k] : 0;
                            way += j > 0 ? ways[i][j - 1][k] : 0;
                            way += k > 0 ? ways[i][j][k - 1] : 0;
                            ways[i][j][k] = way;
                            sum += way;
                        }
                    }
                }
                most = Math.max(most, sum);
            }
        }
        return most;
    }

    /** The most bits that the STATES of 4 THINGS with 9 CALLS need: 4 for each CALL on a QUEUE or STACK, or 9 for a SET. */
    private static long bits() {
        long most = 0;
        int[] fixed = {4, 9, 7, 2};
        for (int rows = 0; rows <= 4; rows++) {
            for (int others = 0; rows + others <= 4; others++) {
                int left = 9 - others;
                if (left >= rows) {
                    // all others as wide as can be, each with one CALL; what is left goes to the rows
                    int widest = 0;
                    for (int width : fixed) {
                        widest = Math.max(widest, width);
                    }
                    most = Math.max(most, widest * others + (rows > 0 ? 4 * left : 0));
                }
            }
        }
        return most;
    }
}
