import java.util.function.Supplier;

/** The boundaries of == 7 and of the promises 9, 10 and 50: what is drawn by a SEED, TAPES and TRIALS. */
final class BoundarySeeds extends Boundary {
    private static final int SEEDS = 4096;

    private BoundarySeeds() {
    }

    static void all() {
        seeds();
        drawn();
        ofOneAlone();
        inWhichOrder();
        tapeAnew();
        whatIsCalled();
        tapesOfAllSeeds();
        tape();
        trialAnew();
        asItIsThen();
        faults();
        tillNineEnded();
        trialsOfAllSeeds();
        trial();
        found();
    }

    /** Draws as the document says. */
    private static final class Draw {
        private int seed;

        Draw(int seed) {
            this.seed = seed;
        }

        int among(int n) {
            seed = (seed * 77 + 31) % 4096;
            return seed / 8 % n;
        }
    }

    private static void seeds() {
        says("A SEED is 0 to 4095.");
        Supplier<Callorder> made = () -> after(play(REGISTER, "0:READ=7 1[READ"), x -> x.step(0, 0, 0, 1));
        for (int seed : new int[] {0, 1, 4094, 4095}) {
            is(made.get().tape(0, seed), 1);
            is(made.get().tape(1, seed), 1);
            is(made.get().trial(SET, 0, seed), 0);
        }
        for (int seed : new int[] {-1, 4096, Integer.MIN_VALUE, Integer.MAX_VALUE}) {
            refuses(ARGUMENT, made, x -> x.tape(0, seed));
            refuses(ARGUMENT, made, x -> x.tape(1, seed));
            for (int kind = 0; kind <= 6; kind++) {
                int k = kind;
                refuses(ARGUMENT, made, x -> x.trial(k, 0, seed));
            }
        }
    }

    private static void drawn() {
        says("To DRAW among n: the SEED s becomes (s * 77 + 31) % 4096, and then s / 8 % n is drawn.");
        // 0 becomes 31, and 3 % 3 is 0; then 2418, and 302 % 2 is 0
        is(order(0), "012");
        // 52 becomes 4035, which is below 4096, and 504 % 3 is 0; then 3526, and 440 % 2 is 0
        is(order(52), "012");
        // 53 becomes 4112, which goes round to 16, and 2 % 3 is 2; then 1263, and 157 % 2 is 1
        is(order(53), "210");
        // 4095 becomes 315346, which goes round to 4050, and 506 % 3 is 2; then 585, and 73 % 2 is 1
        is(order(4095), "210");
        // 1 becomes 108, and 13 % 3 is 1; then 155, and 19 % 2 is 1
        is(order(1), "120");
        for (int seed = 0; seed < SEEDS; seed++) {
            Draw draw = new Draw(seed);
            StringBuilder left = new StringBuilder("012");
            StringBuilder due = new StringBuilder();
            for (int many = 3; many > 0; many--) {
                int place = draw.among(many);
                due.append(left.charAt(place));
                left.deleteCharAt(place);
            }
            is(order(seed), due.toString());
        }
    }

    private static Callorder readers;
    private static int readersAsked;

    /** In which order three PARTS, each of which loads, come by a TAPE. */
    private static String order(int seed) {
        // an object is good for 512 calls
        if (readers == null || readersAsked >= 100) {
            readers = program("LOAD 0", "LOAD 1", "LOAD 2");
            readersAsked = 0;
        }
        readersAsked++;
        is(readers.tape(0, seed), 3);
        return "" + readers.ofCall(0, 0) + readers.ofCall(1, 0) + readers.ofCall(2, 0);
    }

    private static void ofOneAlone() {
        says("Then a RUN goes: for each MOVE one of all that can be done is DRAWN (also of one alone), in this order: the next STEPS of PART 0, 1, 2,"
                + " as far as they can be done, then the FLUSHES of 0, 1, 2.");
        // 0 is alone behind its TAKE till its WRITE is done: that draws, too
        int turned = 0;
        for (int seed = 0; seed < SEEDS; seed++) {
            Draw draw = new Draw(seed);
            String due;
            if (draw.among(2) == 1) {
                due = "T1 CELL0.SWAP(1) = 1";
            } else {
                draw.among(1);
                boolean isLoadFirst = draw.among(2) == 0;
                due = "T0 CELL0.SWAP(1) = 1 / T0 CELL0.WRITE(0) = 0 / "
                        + (isLoadFirst ? "T0 CELL1.READ() = 0 / T1 CELL0.SWAP(1) = 1" : "T1 CELL0.SWAP(1) = 1 / T0 CELL1.READ() = 0");
                Draw other = new Draw(seed);
                other.among(2);
                turned += (other.among(2) == 0) == isLoadFirst ? 0 : 1;
            }
            Callorder b = program("TAKE 0, WRITE 0 0, LOAD 1", "TAKE 0");
            b.tape(0, seed);
            is(Scene.texts(b), due);
        }
        // it makes a difference for many SEEDS
        is(turned > 100, true);
    }

    private static void inWhichOrder() {
        says("in this order: the next STEPS of PART 0, 1, 2, as far as they can be done, then the FLUSHES of 0, 1, 2.");
        for (int seed = 0; seed < SEEDS; seed += 3) {
            // 1 writes and 2 loads: behind the WRITE there are the STEP of 2 and the FLUSH of 1, in this order
            Draw draw = new Draw(seed);
            boolean isWriteFirst = draw.among(2) == 0;
            boolean isLoadAhead = draw.among(2) == 0;
            Callorder b = program("", "WRITE 0 4", "LOAD 0");
            b.tape(1, seed);
            is(Scene.texts(b), isWriteFirst ? "T1 CELL0.WRITE(4) = 0 / T2 CELL0.READ() = " + (isLoadAhead ? 0 : 4)
                    : "T2 CELL0.READ() = 0 / T1 CELL0.WRITE(4) = 0");
            // in MODEL 0 what is written is there at once
            b.tape(0, seed);
            is(Scene.texts(b), isWriteFirst ? "T1 CELL0.WRITE(4) = 0 / T2 CELL0.READ() = 4" : "T2 CELL0.READ() = 0 / T1 CELL0.WRITE(4) = 0");
        }
        // one that cannot be done is none of them: 0 and 1 want the same, then only 2 is left
        for (int seed = 0; seed < SEEDS; seed += 3) {
            Draw draw = new Draw(seed);
            int first = draw.among(3);
            String due;
            if (first == 2) {
                due = "T2 CELL1.READ() = 0 / T" + draw.among(2) + " CELL0.SWAP(1) = 1";
            } else {
                due = "T" + first + " CELL0.SWAP(1) = 1 / T2 CELL1.READ() = 0";
            }
            Callorder b = program("TAKE 0", "TAKE 0", "LOAD 1");
            is(b.tape(0, seed), 2);
            is(Scene.texts(b), due);
        }
    }

    private static void tapeAnew() {
        says("TAPE of a MODEL and a SEED: all THINGS and CALLS go; three THINGS are told, CELLS all, for the CELLS 0 to 2.");
        for (int model = 0; model <= 1; model++) {
            Callorder b = play(things(SET, SET, SET, SET), "0:HAS1=0 1:HAS1=0 2[HAS1 0:1.HAS1=0 0:HAS1=0 0:HAS1=0 0:HAS1=0 0:HAS1=0 1[HAS1");
            is(b.tape(model, 5), 0);
            is(b.bench(0), 3);
            for (int thing = 0; thing <= 2; thing++) {
                is(b.kindOf(thing), CELL);
            }
            is(b.bench(1), 0);
            is(b.bench(2), 0);
            is(b.bench(3), 0);
            is(b.fits(-1), true);
            is(b.thing(QUEUE), 3);
            // the THREADS are free
            is(b.begin(2, 3, 0, 1), 0);
            is(b.begin(1, 2, 1, 0), 1);
        }
        // the THING has the number of the CELL
        for (int cell = 0; cell <= 2; cell++) {
            Callorder b = program("WRITE " + cell + " 5");
            b.tape(0, 0);
            is(b.ofCall(0, 1), cell);
        }
    }

    /** What one PART alone calls, in both MODELS and by each THREAD. */
    private static void calls(String steps, String due) {
        for (int part = 0; part <= 2; part++) {
            for (int model = 0; model <= 1; model++) {
                String[] parts = {"", "", ""};
                parts[part] = steps;
                Callorder b = program(parts);
                int many = due.isEmpty() ? 0 : due.split(" / ").length;
                is(b.tape(model, 77), many);
                is(Scene.texts(b), due.replace("T0", "T" + part));
                is(b.drawn(part), "[][][]".substring(0, 2 * many));
                is(b.drawn((part + 1) % 3), "......".substring(0, 2 * many));
            }
        }
    }

    private static void whatIsCalled() {
        says("The THREAD with the number of the PART calls for each STEP: WRITE and STORE WRITE what goes there (ANSWER 0), LOAD READ (ANSWER what the"
                + " HAND becomes), TAKE SWAP with the VALUE 1 (ANSWER 1), SWAP SWAP (ANSWER what the HAND becomes); RAISE, FENCE and FLUSH call"
                + " nothing. Each such CALL ends as soon as it began.");
        calls("", "");
        calls("WRITE 1 0", "T0 CELL1.WRITE(0) = 0");
        calls("WRITE 1 9", "T0 CELL1.WRITE(9) = 0");
        calls("STORE 2", "T0 CELL2.WRITE(0) = 0");
        calls("RAISE 6, STORE 2", "T0 CELL2.WRITE(6) = 0");
        calls("RAISE 6, STORE 2, RAISE 1", "T0 CELL2.WRITE(6) = 0");
        calls("LOAD 0", "T0 CELL0.READ() = 0");
        calls("WRITE 1 7, LOAD 1", "T0 CELL1.WRITE(7) = 0 / T0 CELL1.READ() = 7");
        calls("WRITE 1 7, LOAD 2", "T0 CELL1.WRITE(7) = 0 / T0 CELL2.READ() = 0");
        calls("TAKE 2", "T0 CELL2.SWAP(1) = 1");
        calls("SWAP 0 9", "T0 CELL0.SWAP(9) = 1");
        calls("SWAP 0 19", "T0 CELL0.SWAP(19) = 0");
        calls("SWAP 0 0", "T0 CELL0.SWAP(0) = 1");
        calls("RAISE 5, SWAP 0 99", "T0 CELL0.SWAP(99) = 0");
        calls("WRITE 0 9, SWAP 0 99", "T0 CELL0.WRITE(9) = 0 / T0 CELL0.SWAP(99) = 1");
        calls("RAISE 1, FENCE, RAISE 9", "");
        calls("WRITE 1 7, FENCE, RAISE 1", "T0 CELL1.WRITE(7) = 0");
        calls("WRITE 0 1, WRITE 1 2, WRITE 2 3", "T0 CELL0.WRITE(1) = 0 / T0 CELL1.WRITE(2) = 0 / T0 CELL2.WRITE(3) = 0");
        // one that is STUCK calls no more
        calls("TAKE 0, TAKE 0", "T0 CELL0.SWAP(1) = 1");
        calls("WRITE 0 5, TAKE 0, LOAD 0", "T0 CELL0.WRITE(5) = 0");
        // an OP that has no use for a VALUE has 0
        int[][] told = {{1, 1, 0, 7, 0, 1, 0}, {1, 1, 1, 0, 2, 3, 7}, {1, 2, 2, 1, 4, 5, 1}};
        Callorder numbers = program("", "WRITE 1 7, LOAD 1, TAKE 2");
        numbers.tape(0, 0);
        for (int call = 0; call < 3; call++) {
            for (int what = 0; what <= 6; what++) {
                is(numbers.ofCall(call, what), told[call][what]);
            }
        }
        // as many as there can be
        Callorder b = program("WRITE 0 1, WRITE 1 2, WRITE 2 3", "LOAD 0, LOAD 1, LOAD 2", "SWAP 0 9, STORE 1, SWAP 2 0");
        for (int model = 0; model <= 1; model++) {
            is(b.tape(model, 4095), 9);
            is(b.bench(3), 18);
            is(b.bench(2), 0);
        }
    }

    private static final String[][] PROGRAMS = {
        {"WRITE 0 1, LOAD 1", "WRITE 1 1, LOAD 0", ""}, {"WRITE 0 1, WRITE 1 2, LOAD 2", "LOAD 1, LOAD 0, STORE 2", "SWAP 0 15, FENCE, LOAD 0"},
        {"WRITE 0 1, WRITE 0 2, LOAD 0", "WRITE 0 3, WRITE 0 4, LOAD 0", "WRITE 0 5, WRITE 0 6, LOAD 0"},
        {"TAKE 0, RAISE 3, TAKE 1", "TAKE 1, STORE 2, TAKE 0", "LOAD 2, SWAP 0 10, WRITE 1 0"},
        {"RAISE 9, STORE 0, LOAD 1", "LOAD 0, RAISE 2, STORE 1", "WRITE 1 8, FENCE, LOAD 0"}};

    private static void tapesOfAllSeeds() {
        says("A SEED is 0 to 4095.");
        for (int seed = 0; seed < SEEDS; seed++) {
            String[] parts = PROGRAMS[seed % PROGRAMS.length];
            Callorder b = program(parts);
            OracleTest.SlowBench slow = new OracleTest.SlowBench();
            for (int part = 0; part <= 2; part++) {
                for (int place = 0; place < b.steps(part); place++) {
                    slow.step(part, b.ofStep(part, place, 0), b.ofStep(part, place, 1), b.ofStep(part, place, 2));
                }
            }
            for (int model = 0; model <= 1; model++) {
                is(b.tape(model, seed), slow.tape(model, seed));
                is(Scene.texts(b), texts(slow));
                sameNumbers(b, slow);
            }
        }
    }

    private static String texts(OracleTest.SlowBench slow) {
        StringBuilder out = new StringBuilder();
        for (int call = 0; call < slow.bench(1); call++) {
            out.append(call == 0 ? "" : " / ").append(slow.text(call));
        }
        return out.toString();
    }

    private static void sameNumbers(Callorder b, OracleTest.SlowBench slow) {
        is(b.bench(3), slow.bench(3));
        for (int call = 0; call < slow.bench(1); call++) {
            for (int what = 0; what <= 6; what++) {
                is(b.ofCall(call, what), slow.ofCall(call, what));
            }
        }
    }

    private static void tape() {
        says(9, "A TAPE of the PROGRAM; MOMENTS begin with 0 again.", "- `model`: 0 PLAIN, 1 BUFFERED", "- `seed`: the SEED",
                "Returns how many CALLS there are then.", "Throws `IllegalArgumentException` if model is not 0 or 1, or seed not 0 to 4095");
        Supplier<Callorder> made = () -> after(play(things(REGISTER, SET), "0:READ=7 1[READ"), x -> {
            x.write(2, 3);
            Scene.put(x, "WRITE 0 1", "LOAD 0");
        });
        for (int model : new int[] {-1, 2, Integer.MIN_VALUE, Integer.MAX_VALUE}) {
            refuses(ARGUMENT, made, x -> x.tape(model, 0));
            refuses(ARGUMENT, made, x -> x.tape(model, 4095));
            refuses(ARGUMENT, made, x -> x.tape(model, 4096));
        }
        for (int model = 0; model <= 1; model++) {
            Callorder b = made.get();
            is(b.tape(model, 3), 2);
            is(b.bench(3), 4);
            is(b.ofCall(0, 4), 0);
            is(b.ofCall(1, 5), 3);
            // the PROGRAM and the STORE stay
            is(b.steps(0), 1);
            is(b.steps(1), 1);
            is(b.ofCopy(2, 0), 3);
            is(b.bench(4), 2);
        }
    }

    private static void trialAnew() {
        says("TRIAL of a KIND, a FAULT and a SEED: all THINGS and CALLS go; one THING of the KIND is told.");
        for (int kind = 0; kind <= 6; kind++) {
            for (int fault = 0; fault <= 3; fault++) {
                Callorder b = play(things(SET, SET, SET, SET), "0:HAS1=0 1:HAS1=0 2[HAS1 0:1.HAS1=0 1[HAS1");
                b.trial(kind, fault, 9);
                is(b.bench(0), 1);
                is(b.kindOf(0), kind);
                is(b.bench(1), 9);
                for (int call = 0; call < 9; call++) {
                    is(b.ofCall(call, 1), 0);
                }
                is(b.thing(QUEUE), 1);
            }
        }
    }

    private static void asItIsThen() {
        says("Then, till 9 CALLS ended, but at most 200 times, a THREAD (0 to 2) is DRAWN, and one of these is done, as it is then.",
                "If it has no open CALL, and fewer than 9 CALLS began, it begins one: the OP is DRAWN among those of the KIND, in their order, then the"
                + " VALUE, if the OP has a use for one, among all that it may be, by rising numbers. If it has an open CALL that took no hold yet,"
                + " that takes hold: it steps on the THING. If it has one that took hold, that ends with its ANSWER.");
        // the SEED 4095: THREADS 2 2 1 1 1 0 2 0 2 0 0 2 1 2 1 2 1 2 1 1 1 2 2 1 2 0 2 1 1 0, where each begins, takes hold, ends
        Callorder b = new Callorder();
        is(b.trial(COUNTER, 0, 4095), 0);
        is(Scene.texts(b), "T2 COUNTER0.READ() = 0 / T1 COUNTER0.ADD(7) = 7 / T0 COUNTER0.ADD(6) = 13 / T2 COUNTER0.ADD(3) = 16"
                + " / T0 COUNTER0.ADD(3) = 33 / T1 COUNTER0.READ() = 16 / T2 COUNTER0.READ() = 16 / T1 COUNTER0.ADD(8) = 24"
                + " / T2 COUNTER0.ADD(6) = 30");
        is(b.drawn(0), "...[--][---------]");
        is(b.drawn(1), ".[].....[--][]....");
        is(b.drawn(2), "[---][---][---][].");
        // the SEED 0: seven times at the end a THREAD is drawn that begins none any more
        is(b.trial(COUNTER, 0, 0), 0);
        is(Scene.texts(b), "T0 COUNTER0.ADD(4) = 4 / T2 COUNTER0.READ() = 4 / T1 COUNTER0.READ() = 4 / T0 COUNTER0.READ() = 4"
                + " / T2 COUNTER0.READ() = 11 / T1 COUNTER0.ADD(7) = 11 / T0 COUNTER0.READ() = 11 / T0 COUNTER0.ADD(3) = 14"
                + " / T1 COUNTER0.ADD(5) = 19");
        is(b.fits(0), true);
    }

    private static void faults() {
        says("FAULT 0: all goes right. The others come at each third hold (the 3rd, 6th, 9th): 1 STALE: it is ANSWERED as if the THING were as it was"
                + " ahead of the hold before this one, though it steps rightly; 2 LOST: it is ANSWERED rightly, but the THING stays as it is;"
                + " 3 TWICE: it steps two times, and the first ANSWER is told.");
        // the SEED 4095, by holds: READ, ADD 7, ADD 6 (the 3rd), ADD 3, READ, READ (the 6th), ADD 8, ADD 6, ADD 3 (the 9th)
        int[][] due = {{0, 7, 13, 16, 16, 16, 24, 30, 33}, {0, 7, 6, 16, 16, 16, 24, 30, 27}, {0, 7, 13, 10, 10, 10, 18, 24, 27},
            {0, 7, 13, 22, 22, 22, 30, 36, 39}};
        int[] byHolds = {0, 1, 2, 3, 5, 6, 7, 8, 4};
        for (int fault = 0; fault <= 3; fault++) {
            Callorder b = new Callorder();
            is(b.trial(COUNTER, fault, 4095), 0);
            for (int hold = 0; hold < 9; hold++) {
                is(b.ofCall(byHolds[hold], 6), due[fault][hold]);
            }
            is(b.fits(0), fault == 0);
        }
    }

    private static void tillNineEnded() {
        says("Then, till 9 CALLS ended, but at most 200 times, a THREAD (0 to 2) is DRAWN, and one of these is done, as it is then.");
        // no SEED needs more than 48 of the 200 times: nine ended, none HANGS
        int most = 0;
        for (int kind = 0; kind <= 6; kind++) {
            for (int seed = 0; seed < SEEDS; seed++) {
                most = Math.max(most, times(kind, seed));
            }
        }
        is(most, 48);
    }

    /** How many times a THREAD is drawn in a TRIAL. */
    private static int times(int kind, int seed) {
        int[] ops = {2, 2, 2, 3, 2, 2, 3};
        int[][] values = {{9, 0}, {9, 0}, {9, 0}, {9, 9, 9}, {9, 0}, {0, 0}, {10, 0, 100}};
        Draw draw = new Draw(seed);
        int[] stage = new int[3];
        int began = 0;
        int ended = 0;
        int times = 0;
        while (ended < 9) {
            times++;
            int thread = draw.among(3);
            if (stage[thread] == 0 && began < 9) {
                int op = draw.among(ops[kind]);
                if (values[kind][op] > 0) {
                    draw.among(values[kind][op]);
                }
                began++;
                stage[thread] = 1;
            } else if (stage[thread] == 1) {
                stage[thread] = 2;
            } else if (stage[thread] == 2) {
                stage[thread] = 0;
                ended++;
            }
        }
        return times;
    }

    private static void trialsOfAllSeeds() {
        says("A SEED is 0 to 4095.");
        Callorder b = new Callorder();
        int asked = 0;
        for (int kind = 0; kind <= 6; kind++) {
            for (int fault = 0; fault <= 3; fault++) {
                // each SEED with some KIND and FAULT, each KIND and FAULT with many SEEDS, the first and the last one with all
                for (int seed = 0; seed < SEEDS; seed++) {
                    if ((seed + kind * 4 + fault) % 7 == 0 || seed == 0 || seed == SEEDS - 1) {
                        if (asked % 5 == 0) {
                            b = new Callorder();
                        }
                        asked++;
                        OracleTest.SlowBench slow = new OracleTest.SlowBench();
                        is(b.trial(kind, fault, seed), slow.trial(kind, fault, seed));
                        is(Scene.texts(b), texts(slow));
                        sameNumbers(b, slow);
                    }
                }
            }
        }
    }

    private static void trial() {
        says(10, "A TRIAL; MOMENTS begin with 0 again.", "- `kind`: the KIND", "- `fault`: the FAULT", "- `seed`: the SEED",
                "Returns how many CALLS HANG then.",
                "Throws `IllegalArgumentException` if kind is not 0 to 6, fault not 0 to 3, or seed not 0 to 4095");
        Supplier<Callorder> made = () -> after(play(things(REGISTER, SET), "0:READ=7 1[READ"), x -> x.write(2, 3));
        for (int no : new int[] {-1, Integer.MIN_VALUE, Integer.MAX_VALUE}) {
            refuses(ARGUMENT, made, x -> x.trial(no, 0, 0));
            refuses(ARGUMENT, made, x -> x.trial(0, no, 0));
            refuses(ARGUMENT, made, x -> x.trial(0, 0, no));
        }
        refuses(ARGUMENT, made, x -> x.trial(7, 0, 0));
        refuses(ARGUMENT, made, x -> x.trial(0, 4, 0));
        refuses(ARGUMENT, made, x -> x.trial(0, 0, 4096));
        for (int kind = 0; kind <= 6; kind++) {
            for (int fault = 0; fault <= 3; fault++) {
                Callorder b = made.get();
                is(b.trial(kind, fault, 4095), 0);
                is(b.bench(2), 0);
                is(b.bench(3), 18);
                is(b.ofCall(0, 4), 0);
                is(b.ofCopy(2, 0), 3);
                is(b.bench(4), 2);
                if (fault == 0) {
                    is(b.fits(-1), true);
                }
            }
        }
    }

    private static void found() {
        says(50, "Nothing is changed.", "- `kind`: a KIND", "- `fault`: a FAULT", "- `many`: how many SEEDS, from 0 on",
                "Returns of how many of these SEEDS a TRIAL did not FIT.",
                "Throws `IllegalArgumentException` if kind is not 0 to 6, fault not 0 to 3, or many not 1 to 8");
        Supplier<Callorder> made = () -> after(play(things(REGISTER, SET), "0:READ=7 1[READ"), x -> x.write(2, 3));
        for (int kind = 0; kind <= 6; kind++) {
            int k = kind;
            for (int fault = 0; fault <= 3; fault++) {
                int f = fault;
                int bad = 0;
                Callorder tried = new Callorder();
                for (int many = 1; many <= 8; many++) {
                    tried.trial(kind, fault, many - 1);
                    bad += tried.fits(-1) ? 0 : 1;
                    is(made.get().found(kind, fault, many), bad);
                    if (fault == 0) {
                        is(bad, 0);
                    }
                }
                leaves(made, x -> x.found(k, f, 8));
                for (int many : new int[] {0, 9, -1, Integer.MIN_VALUE, Integer.MAX_VALUE}) {
                    refuses(ARGUMENT, made, x -> x.found(k, f, many));
                }
            }
            for (int fault : new int[] {-1, 4, Integer.MIN_VALUE, Integer.MAX_VALUE}) {
                refuses(ARGUMENT, made, x -> x.found(k, fault, 1));
            }
        }
        for (int kind : new int[] {-1, 7, Integer.MIN_VALUE, Integer.MAX_VALUE}) {
            refuses(ARGUMENT, made, x -> x.found(kind, 0, 1));
            refuses(ARGUMENT, made, x -> x.found(kind, 4, 9));
        }
        // what it tried is not what stands there, nor is what was asked before
        Callorder b = play(REGISTER, "0:WRITE1=0 1:READ=0");
        is(b.fits(0), false);
        is(b.found(COUNTER, 2, 8) > 0, true);
        is(b.fits(0), false);
        is(b.core(0), 2);
        is(b.wouldFit(1, 1), true);
        is(b.orders(0), 0L);
        is(b.fast(0), 0);
        is(b.promises(), 14);
    }
}
