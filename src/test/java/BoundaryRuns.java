import java.util.function.Function;
import java.util.function.IntFunction;
import java.util.function.Supplier;

/** The boundaries of == 6 and of the promises 38 to 49: PROGRAMS, their RUNS, PLACES and OUTCOMES. */
final class BoundaryRuns extends Boundary {
    private static final String[] NAMES = {"WRITE", "LOAD", "STORE", "RAISE", "FENCE", "TAKE", "SWAP"};

    private BoundaryRuns() {
    }

    static void all() {
        parts();
        writes();
        loads();
        stores();
        raises();
        fences();
        takes();
        swaps();
        plain();
        buffered();
        ownBuffer();
        waitForTheBuffer();
        flushes();
        endsOrStuck();
        outcomeOfSixDigits();
        placesOfARun();
        rowsOfMoves();
        free();
        alike();
        step();
        unstep();
        steps();
        ofStep();
        modelsOnly();
        outcomes();
        outcome();
        can();
        stuck();
        places();
        runs();
        unlike();
        fenced();
        anyProgram();
        askedInAnyOrder();
    }

    /** What RUNS of a MODEL there are: the OUTCOMES, in how many PLACES they are STUCK, how many PLACES and RUNS there are. */
    private static void runs(Callorder b, int model, String outcomes, int stuck, int places, long runs) {
        is(Scene.outcomes(b, model), outcomes);
        is(b.stuck(model), stuck);
        is(b.places(model), places);
        is(b.runs(model), runs);
    }

    /** Both MODELS have just this OUTCOME, and never are STUCK. */
    private static void ends(String outcome, String... parts) {
        for (int model = 0; model <= 1; model++) {
            Callorder b = program(parts);
            is(Scene.outcomes(b, model), outcome);
            is(b.stuck(model), 0);
        }
        is(program(parts).fenced(), 1);
    }

    private static void parts() {
        says("The PROGRAM has three PARTS, 0 to 2, each a row of at most 3 STEPS, none at first; three CELLS, 0 to 2, and a HAND for each PART,"
                + " all 0 as it begins.");
        for (int part = 0; part <= 2; part++) {
            int p = part;
            is(new Callorder().steps(part), 0);
            for (int kind = 0; kind <= 6; kind++) {
                int value = kind == 3 ? 1 : 0;
                int k = kind;
                Callorder b = new Callorder();
                for (int many = 1; many <= 3; many++) {
                    is(b.step(part, kind, 0, value), many);
                }
                refuses(STATE, () -> after(new Callorder(), x -> {
                    x.step(p, 4, 0, 0);
                    x.step(p, 4, 0, 0);
                    x.step(p, 4, 0, 0);
                }), x -> x.step(p, k, 0, value));
            }
        }
        // each PART has room of its own
        Callorder all = program("FENCE, FENCE, FENCE", "FENCE, FENCE", "");
        is(all.step(1, 4, 0, 0), 3);
        is(all.step(2, 4, 0, 0), 1);
        // no STEPS, the CELLS and the HANDS: all 0
        ends("000000");
        ends("000000", "", "", "");
        ends("000000", "LOAD 0, STORE 0", "LOAD 1, STORE 1", "LOAD 2, STORE 2");
        runs(new Callorder(), 0, "000000", 0, 1, 1);
        runs(new Callorder(), 1, "000000", 0, 1, 1);
        is(new Callorder().unlike(), 1);
    }

    private static void writes() {
        says("0 WRITE (VALUE 0 to 9) into the CELL.");
        for (int part = 0; part <= 2; part++) {
            for (int cell = 0; cell <= 2; cell++) {
                for (int value = 0; value <= 9; value++) {
                    String[] parts = {"", "", ""};
                    parts[part] = "WRITE " + cell + " " + value;
                    ends(digits(cell, value), parts);
                    // the later one stays
                    parts[part] = "WRITE " + cell + " " + (9 - value) + ", WRITE " + cell + " " + value;
                    ends(digits(cell, value), parts);
                }
            }
        }
        values(0, 0, 9);
    }

    private static String digits(int place, int value) {
        return "000000".substring(0, place) + value + "000000".substring(place + 1);
    }

    /** A STEP of this KIND takes just these VALUES. */
    private static void values(int kind, int least, int most) {
        for (int value = least; value <= most; value++) {
            Callorder b = new Callorder();
            is(b.step(1, kind, 0, value), 1);
            is(b.ofStep(1, 0, 2), value);
        }
        for (int value : new int[] {least - 1, most + 1, Integer.MIN_VALUE, Integer.MAX_VALUE}) {
            refuses(ARGUMENT, Callorder::new, x -> x.step(1, kind, 0, value));
            refuses(ARGUMENT, () -> program("", "FENCE, FENCE, FENCE"), x -> x.step(1, kind, 0, value));
        }
        int last = kind == 3 || kind == 4 ? 0 : 2;
        for (int cell = 0; cell <= last; cell++) {
            Callorder b = new Callorder();
            is(b.step(1, kind, cell, least), 1);
            is(b.ofStep(1, 0, 1), cell);
        }
        for (int cell : new int[] {-1, last + 1, Integer.MIN_VALUE, Integer.MAX_VALUE}) {
            refuses(ARGUMENT, Callorder::new, x -> x.step(1, kind, cell, least));
        }
    }

    private static void loads() {
        says("1 LOAD: the HAND becomes what the CELL holds.");
        for (int cell = 0; cell <= 2; cell++) {
            for (int value = 0; value <= 9; value++) {
                String outcome = digits(cell, value);
                ends(outcome.substring(0, 3) + value + "00", "WRITE " + cell + " " + value + ", LOAD " + cell);
                ends(outcome.substring(0, 3) + "0" + "00", "WRITE " + cell + " " + value + ", LOAD " + (cell + 1) % 3);
                // not what the HAND held before
                ends(outcome.substring(0, 3) + value + "00", "RAISE 5, WRITE " + cell + " " + value + ", LOAD " + cell);
            }
        }
        values(1, 0, 0);
    }

    private static void stores() {
        says("2 STORE: what the HAND holds goes into the CELL.");
        for (int part = 0; part <= 2; part++) {
            for (int cell = 0; cell <= 2; cell++) {
                for (int value = 1; value <= 9; value++) {
                    String[] parts = {"", "", ""};
                    parts[part] = "RAISE " + value + ", STORE " + cell;
                    String due = digits(cell, value).substring(0, 3) + digits(part, value).substring(0, 3);
                    ends(due, parts);
                    // what the HAND held then, not what it holds later
                    parts[part] = "RAISE " + value + ", STORE " + cell + ", RAISE 1";
                    ends(due.substring(0, 3) + digits(part, (value + 1) % 10).substring(0, 3), parts);
                }
            }
        }
        ends("000000", "WRITE 0 7, STORE 0");
        values(2, 0, 0);
    }

    private static void raises() {
        says("3 RAISE (VALUE 1 to 9): the HAND becomes (it + VALUE) % 10.");
        for (int one = 1; one <= 9; one++) {
            ends("000" + one + "00", "RAISE " + one);
            for (int other = 1; other <= 9; other++) {
                ends("000" + (one + other) % 10 + "00", "RAISE " + one + ", RAISE " + other);
            }
        }
        ends("000900", "RAISE 4, RAISE 5");
        ends("000000", "RAISE 5, RAISE 5");
        ends("000700", "RAISE 9, RAISE 9, RAISE 9");
        ends("000123", "RAISE 1", "RAISE 2", "RAISE 3");
        values(3, 1, 9);
    }

    private static void fences() {
        says("4 FENCE: nothing.");
        ends("000000", "FENCE");
        ends("700000", "WRITE 0 7, FENCE");
        ends("000600", "RAISE 6, FENCE, FENCE");
        values(4, 0, 0);
    }

    private static void takes() {
        says("5 TAKE: it can be done only if the CELL holds 0; it holds 1 then.");
        for (int cell = 0; cell <= 2; cell++) {
            ends(digits(cell, 1), "TAKE " + cell);
            ends(digits(cell, 1), "WRITE " + cell + " 0, TAKE " + cell);
            // the HAND stays as it is
            ends(digits(cell, 1).substring(0, 3) + "500", "RAISE 5, TAKE " + cell);
            // another CELL is no matter
            ends("7" + digits(1, 1).substring(1), "WRITE 0 7, TAKE 1");
            for (int value = 1; value <= 9; value++) {
                Callorder b = program("WRITE " + cell + " " + value + ", TAKE " + cell);
                runs(b, 0, "", 1, 2, 1);
                runs(b, 1, "", 1, 3, 1);
                is(b.fenced(), 0);
            }
            // it holds 1 then, and cannot be taken again till it holds 0
            runs(program("TAKE " + cell + ", TAKE " + cell), 0, "", 1, 2, 1);
            runs(program("TAKE " + cell + ", TAKE " + cell), 1, "", 1, 2, 1);
            ends(digits(cell, 1), "TAKE " + cell + ", WRITE " + cell + " 0, TAKE " + cell);
        }
        values(5, 0, 0);
    }

    private static void swaps() {
        says("6 SWAP (VALUE 0 to 99): if the CELL holds VALUE / 10, it holds VALUE % 10 then, and the HAND becomes 1; otherwise the HAND becomes 0.");
        for (int value = 0; value <= 99; value++) {
            int cell = value % 3;
            for (int held = 0; held <= 9; held++) {
                boolean isIt = held == value / 10;
                String due = digits(cell, isIt ? value % 10 : held).substring(0, 3) + (isIt ? "100" : "000");
                ends(due, "WRITE " + cell + " " + held + ", SWAP " + cell + " " + value);
            }
        }
        // whatever the HAND held
        ends("900100", "RAISE 5, SWAP 0 9");
        ends("000000", "RAISE 5, SWAP 0 10");
        ends("000010", "", "RAISE 5, SWAP 1 0");
        values(6, 0, 99);
    }

    private static void plain() {
        says("MODEL 0, PLAIN: a MOVE of a PART does its next STEP.");
        // three rows of so many MOVES that have nothing to do with each other
        String[] rows = {"", "RAISE 1", "RAISE 1, RAISE 1", "RAISE 1, RAISE 1, RAISE 1"};
        for (int a = 0; a <= 3; a++) {
            for (int b = 0; b <= 3; b++) {
                for (int c = 0; c <= 3; c++) {
                    Callorder bench = program(rows[a], rows[b], rows[c]);
                    long due = factorial(a + b + c) / factorial(a) / factorial(b) / factorial(c);
                    for (int model = 0; model <= 1; model++) {
                        runs(bench, model, "000" + a + b + c, 0, (a + 1) * (b + 1) * (c + 1), due);
                    }
                    is(bench.unlike(), 1);
                    is(bench.fenced(), 1);
                }
            }
        }
        // what is written is there at once
        runs(program("WRITE 0 5", "LOAD 0"), 0, "500000 500050", 0, 5, 2);
        runs(program("WRITE 0 1, LOAD 1", "WRITE 1 1, LOAD 0"), 0, "110010 110100 110110", 0, 13, 6);
    }

    private static long factorial(int n) {
        return n < 2 ? 1 : n * factorial(n - 1);
    }

    private static void buffered() {
        says("A RUN goes by MOVES from the beginning on.",
                "MODEL 1, BUFFERED: each PART has a BUFFER, a row, empty as it begins; WRITE and STORE put the CELL and what is to go there at the"
                + " end of the own BUFFER, and the CELL stays as it is;");
        // empty as it begins: nothing waits
        runs(program("FENCE"), 1, "000000", 0, 2, 1);
        runs(program("TAKE 0"), 1, "100000", 0, 2, 1);
        runs(program("SWAP 0 5"), 1, "500100", 0, 2, 1);
        // the CELL stays as it is till the FLUSH
        runs(program("WRITE 0 5"), 1, "500000", 0, 3, 1);
        runs(program("STORE 0"), 1, "000000", 0, 3, 1);
        runs(program("WRITE 0 5", "LOAD 0"), 1, "500000 500050", 0, 7, 3);
        // each writes and then loads the other: both can be answered 0
        Callorder b = program("WRITE 0 1, LOAD 1", "WRITE 1 1, LOAD 0");
        runs(b, 1, "110000 110010 110100 110110", 0, 34, 80);
        Callorder s = program("STORE 0, LOAD 1", "STORE 1, LOAD 0");
        is(s.runs(1), 80);
        // one, two, three in a BUFFER: so many rows of MOVES as there are ways to close brackets
        runs(program("WRITE 0 1"), 1, "100000", 0, 3, 1);
        runs(program("WRITE 0 1, WRITE 1 2"), 1, "120000", 0, 6, 2);
        runs(program("WRITE 0 1, WRITE 1 2, WRITE 2 3"), 1, "123000", 0, 10, 5);
        runs(program("WRITE 0 0, WRITE 0 0, WRITE 0 0"), 1, "000000", 0, 10, 5);
        runs(program("WRITE 0 9, WRITE 1 9, WRITE 2 9"), 1, "999000", 0, 10, 5);
    }

    private static void ownBuffer() {
        says("LOAD takes what stands latest in the own BUFFER for that CELL, otherwise what the CELL holds;");
        ends("500500", "WRITE 0 5, LOAD 0");
        ends("600600", "WRITE 0 5, WRITE 0 6, LOAD 0");
        ends("650500", "WRITE 1 5, WRITE 0 6, LOAD 1");
        ends("560500", "WRITE 0 5, WRITE 1 6, LOAD 0");
        ends("560600", "WRITE 0 5, WRITE 1 6, LOAD 1");
        ends("560000", "WRITE 0 5, WRITE 1 6, LOAD 2");
        ends("050000", "WRITE 1 5, LOAD 0");
        ends("005500", "RAISE 5, STORE 2, LOAD 2");
        ends("000000", "WRITE 0 5, WRITE 0 0, LOAD 0");
        // not of another one's BUFFER, nor what it has for another CELL
        runs(program("WRITE 0 5, LOAD 0", "WRITE 0 6"), 1, "500500 600500 600600", 0, 18, 20);
        is(program("WRITE 0 5", "WRITE 0 6, LOAD 0").can(1, 500000), false);
        is(program("WRITE 0 5", "WRITE 0 6, LOAD 0").can(1, 500060), true);
        // what was flushed and then written over by another one is what the CELL holds
        is(program("WRITE 0 5, FENCE, LOAD 0", "WRITE 0 6").can(1, 600600), true);
        is(program("WRITE 0 5, FENCE, LOAD 0", "WRITE 0 6").can(1, 500600), false);
    }

    private static void waitForTheBuffer() {
        says("FENCE, TAKE and SWAP can be done only if the own BUFFER is empty;");
        String[] waiting = {"FENCE", "TAKE 1", "SWAP 1 0"};
        for (String step : waiting) {
            is(program("WRITE 0 3, " + step).runs(1), 1);
            is(program("STORE 0, " + step).runs(1), 1);
            is(program("WRITE 0 3, " + step).places(1), 4);
            is(program("WRITE 0 3, WRITE 2 4, " + step).runs(1), 2);
            is(program(step + ", WRITE 0 3").runs(1), 1);
            // another one's BUFFER is no matter
            is(program("WRITE 0 3", step).runs(1), 3);
            is(program("WRITE 0 3", "", step).runs(1), 3);
            is(program("WRITE 0 3", step).places(1), 6);
        }
        String[] others = {"WRITE 1 0", "LOAD 1", "STORE 1", "RAISE 1"};
        for (String step : others) {
            is(program("WRITE 0 3, " + step).runs(1), 2);
        }
        // on the CELL of the BUFFER they come behind the FLUSH
        ends("800100", "WRITE 0 3, SWAP 0 38");
        ends("300000", "WRITE 0 3, SWAP 0 8");
        ends("100000", "WRITE 0 0, TAKE 0");
        Callorder fence = program("WRITE 0 1, FENCE, LOAD 1", "WRITE 1 1, FENCE, LOAD 0");
        is(Scene.outcomes(fence, 1), "110010 110100 110110");
    }

    private static void flushes() {
        says("and a PART with a BUFFER that is not empty has a second MOVE: FLUSH, what stands first in it goes into its CELL.");
        // what was put first goes first
        ends("600000", "WRITE 0 5, WRITE 0 6");
        ends("700000", "WRITE 0 5, WRITE 0 6, WRITE 0 7");
        runs(program("WRITE 0 5, WRITE 1 6", "LOAD 1, LOAD 0"), 1, "560000 560050", 0, 22, 30);
        is(program("WRITE 0 5, WRITE 1 6", "LOAD 1, STORE 2, LOAD 0").can(1, 566000), false);
        is(program("WRITE 0 5, WRITE 1 6", "LOAD 1, STORE 2, LOAD 0").can(1, 566050), true);
        // each PART flushes its own
        is(Scene.outcomes(program("WRITE 0 1", "WRITE 0 2", "WRITE 0 3"), 1), "100000 200000 300000");
        is(program("WRITE 0 1", "WRITE 0 2", "WRITE 0 3").runs(1), 90);
        is(program("WRITE 0 1", "WRITE 1 2", "WRITE 2 3").runs(1), 90);
        is(program("WRITE 0 1", "WRITE 1 2", "WRITE 2 3").places(1), 27);
    }

    private static void endsOrStuck() {
        says("A RUN goes on as long as a MOVE can be done. It ENDS, if all STEPS are done then (all BUFFERS are empty then); otherwise it is STUCK.");
        // two that take two CELLS in two ways: each of three PLACES is one to be STUCK in
        Callorder b = program("TAKE 0, TAKE 1", "TAKE 1, TAKE 0");
        runs(b, 0, "", 3, 6, 4);
        runs(b, 1, "", 3, 6, 4);
        is(b.unlike(), 3);
        is(b.fenced(), 0);
        // one RUN ENDS, the other one is STUCK
        Callorder c = program("TAKE 0, WRITE 0 0", "TAKE 0");
        runs(c, 0, "100000", 1, 5, 2);
        runs(c, 1, "100000", 1, 6, 2);
        is(c.unlike(), 2);
        is(c.fenced(), 1);
        // the last STEP of all cannot be done: STUCK in one PLACE, though many RUNS come there
        Callorder d = program("RAISE 1", "RAISE 1", "TAKE 0, TAKE 0");
        runs(d, 0, "", 1, 8, 6);
        runs(d, 1, "", 1, 8, 6);
        // one that is STUCK has all BUFFERS empty
        runs(program("WRITE 1 7, FENCE, TAKE 1"), 1, "", 1, 4, 1);
        runs(program("WRITE 1 7", "TAKE 0, TAKE 0"), 1, "", 1, 6, 3);
        // not STUCK while another PART can go on, and then this one, too
        ends("000000", "TAKE 0, WRITE 0 0");
        Callorder e = program("TAKE 0, RAISE 1, WRITE 0 0", "TAKE 0, RAISE 1, WRITE 0 0", "TAKE 0, RAISE 1, WRITE 0 0");
        runs(e, 0, "000111", 0, 7 + 3 * 5 + 3 * 3 + 1, 6);
        is(Scene.outcomes(e, 1), "000111");
        is(e.stuck(1), 0);
        is(e.runs(1), 6);
    }

    private static void outcomeOfSixDigits() {
        says("Its OUTCOME, if it ENDS, is a number of six digits: what the CELLS 0, 1, 2 hold, then what the HANDS 0, 1, 2 hold"
                + " (first digits may be 0).");
        ends("987654", "WRITE 0 9, WRITE 1 8, RAISE 6", "WRITE 2 7, RAISE 5", "RAISE 4");
        ends("999999", "WRITE 0 9, WRITE 1 9, RAISE 9", "WRITE 2 9, RAISE 9", "RAISE 9");
        ends("000009", "", "", "RAISE 9");
        is(program("", "", "RAISE 9").outcome(0, 0), 9);
        is(program("WRITE 0 9, WRITE 1 9, RAISE 9", "WRITE 2 9, RAISE 9", "RAISE 9").outcome(1, 0), 999999);
        is(new Callorder().outcome(0, 0), 0);
    }

    private static void placesOfARun() {
        says("A PLACE of a RUN: how many STEPS of each PART are done, CELLS, HANDS and BUFFERS.");
        // the STEPS done differ
        is(program("FENCE").places(0), 2);
        is(program("FENCE", "FENCE").places(0), 4);
        is(program("FENCE", "FENCE", "FENCE").places(0), 8);
        // with all done, CELLS differ, or do not
        is(program("WRITE 0 1", "WRITE 0 2").places(0), 5);
        is(program("WRITE 0 1", "WRITE 0 1").places(0), 4);
        is(program("WRITE 0 1", "WRITE 1 2").places(0), 4);
        // HANDS differ, or do not
        is(program("WRITE 0 1", "LOAD 0").places(0), 5);
        is(program("WRITE 0 0", "LOAD 0").places(0), 4);
        is(program("WRITE 0 1", "LOAD 1").places(0), 4);
        // BUFFERS differ in how many are in, or in the VALUE
        is(program("WRITE 0 0").places(1), 3);
        is(program("WRITE 0 0, WRITE 0 0").places(1), 6);
        is(program("WRITE 0 1", "LOAD 0, STORE 1").places(1), 15);
        is(program("WRITE 0 0", "LOAD 0, STORE 1").places(1), 12);
        // in MODEL 0 no BUFFER is ever used
        is(program("WRITE 0 1, WRITE 1 2, WRITE 2 3").places(0), 4);
    }

    private static void rowsOfMoves() {
        says("RUNS are counted by their rows of MOVES.");
        // the same OUTCOME by two rows counts twice, a FLUSH is a MOVE
        runs(program("RAISE 1", "RAISE 1"), 0, "000110", 0, 4, 2);
        runs(program("WRITE 0 0", "WRITE 0 0"), 1, "000000", 0, 9, 6);
        is(program("RAISE 1, RAISE 1, RAISE 1", "RAISE 1, RAISE 1, RAISE 1", "RAISE 1, RAISE 1, RAISE 1").runs(0), 1680);
        // as many as there can be: 18 MOVES, six of each PART in five ways
        Callorder most = program("WRITE 0 1, WRITE 0 2, WRITE 0 3", "WRITE 1 1, WRITE 1 2, WRITE 1 3", "WRITE 2 1, WRITE 2 2, WRITE 2 3");
        runs(most, 1, "333000", 0, 1000, 17153136L * 125);
        runs(most, 0, "333000", 0, 64, 1680);
        is(most.unlike(), 1);
        // STUCK ones count as well
        is(program("TAKE 0", "TAKE 0", "TAKE 0").runs(0), 3);
        is(program("TAKE 0", "TAKE 0", "TAKE 0").runs(1), 3);
    }

    private static void free() {
        says("In MODEL 0 two MOVES that stand beside each other in a RUN are FREE of each other, if they are of two PARTS, and they use no CELL both,"
                + " or both are LOADS (RAISE and FENCE use none).");
        for (int one = 0; one <= 6; one++) {
            for (int other = 0; other <= 6; other++) {
                boolean isCell = one != 3 && one != 4 && other != 3 && other != 4;
                boolean isFree = !isCell || one == 1 && other == 1;
                for (int cell = 0; cell <= 2; cell++) {
                    String same = step(other, cell);
                    is(program(step(one, cell), same).unlike(), isFree ? 1 : 2);
                    is(program("", step(one, cell), same).unlike(), isFree ? 1 : 2);
                    is(program(step(one, cell), "", same).unlike(), isFree ? 1 : 2);
                    is(program(step(one, cell), same).runs(0), 2);
                    is(program(step(one, cell), step(other, (cell + 1) % 3)).unlike(), 1);
                    is(program(step(one, cell), step(other, (cell + 1) % 3)).runs(0), 2);
                }
                // of one PART: one row alone
                if (one != 5 || other != 5) {
                    is(program(step(one, 0) + ", " + step(other, 1)).unlike(), 1);
                }
            }
        }
    }

    private static String step(int kind, int cell) {
        String name = NAMES[kind];
        return kind == 3 ? name + " 1" : kind == 4 ? name : name + " " + cell + (kind == 0 || kind == 6 ? " 0" : "");
    }

    private static void alike() {
        says("RUNS are ALIKE, if one can be made of the other by turning round two neighbouring MOVES that are FREE of each other, as often as needed.");
        says(48, "Returns how many RUNS of MODEL 0 there are, if all that are ALIKE count as one.");
        // all of 1680 by many turns
        Callorder loads = program("LOAD 0, LOAD 0, LOAD 0", "LOAD 0, LOAD 0, LOAD 0", "LOAD 0, LOAD 0, LOAD 0");
        is(loads.runs(0), 1680);
        is(loads.unlike(), 1);
        // none: each row by itself
        Callorder writes = program("WRITE 0 0, WRITE 0 0, WRITE 0 0", "WRITE 0 0, WRITE 0 0, WRITE 0 0", "WRITE 0 0, WRITE 0 0, WRITE 0 0");
        is(writes.unlike(), 1680);
        // a WRITE among LOADS: only where it stands among those of each PART
        is(program("WRITE 0 1", "LOAD 0, LOAD 0, LOAD 0", "").unlike(), 4);
        is(program("WRITE 0 1", "LOAD 0, LOAD 0, LOAD 0", "LOAD 0, LOAD 0, LOAD 0").unlike(), 16);
        is(program("WRITE 0 1", "LOAD 0", "LOAD 0").unlike(), 4);
        is(program("WRITE 0 1", "LOAD 0", "LOAD 0").runs(0), 6);
        // a MOVE that is FREE of both stands between: it is turned out of the way
        is(program("WRITE 0 1, RAISE 1", "RAISE 1, WRITE 0 2").unlike(), 2);
        is(program("WRITE 0 1, RAISE 1", "RAISE 1, WRITE 0 2").runs(0), 6);
        is(program("WRITE 0 1, LOAD 1", "WRITE 1 1, LOAD 0").unlike(), 3);
        is(program("SWAP 1 0", "SWAP 1 0", "SWAP 1 0").unlike(), 6);
        is(program("SWAP 1 0", "SWAP 1 0", "LOAD 1").unlike(), 6);
        is(program("SWAP 0 0", "SWAP 1 0", "SWAP 2 0").unlike(), 1);
        // RUNS that are STUCK count, too
        is(program("TAKE 0", "TAKE 0", "TAKE 0").unlike(), 3);
        is(program("TAKE 0, TAKE 1", "TAKE 1, TAKE 0").unlike(), 3);
        is(new Callorder().unlike(), 1);
    }

    private static void step() {
        says(38, "A STEP comes at the end of a PART.", "- `part`: a PART of the PROGRAM", "- `kind`: which STEP",
                "- `cell`: the CELL (0, if it has no use for one)", "- `value`: the VALUE (0, if it has none)",
                "Returns how many STEPS the PART has then.", "Throws `IndexOutOfBoundsException` if part is not 0 to 2",
                "Throws `IllegalArgumentException` if kind is not 0 to 6, cell not 0 to 2 (only 0 for RAISE and FENCE), or value is not what it"
                + " may be for it", "Throws `IllegalStateException` if the PART has 3");
        says("STEPS by number, on a CELL (0, if it has no use for one), with a VALUE (0, if it has none):");
        Supplier<Callorder> full = () -> program("FENCE, FENCE, FENCE", "FENCE, FENCE, FENCE", "FENCE, FENCE, FENCE");
        for (Supplier<Callorder> made : benches(Callorder::new, () -> program("FENCE, FENCE", "FENCE", ""), full)) {
            for (int part : new int[] {-1, 3, Integer.MIN_VALUE, Integer.MAX_VALUE}) {
                refuses(INDEX, made, x -> x.step(part, 4, 0, 0));
                refuses(INDEX, made, x -> x.step(part, 7, 3, 100));
            }
            for (int part = 0; part <= 2; part++) {
                int p = part;
                for (int kind : new int[] {-1, 7, Integer.MIN_VALUE, Integer.MAX_VALUE}) {
                    refuses(ARGUMENT, made, x -> x.step(p, kind, 0, 0));
                    refuses(ARGUMENT, made, x -> x.step(p, kind, 0, 1));
                }
                for (int kind = 0; kind <= 6; kind++) {
                    int k = kind;
                    for (int cell : new int[] {-1, 3, Integer.MIN_VALUE, Integer.MAX_VALUE}) {
                        refuses(ARGUMENT, made, x -> x.step(p, k, cell, k == 3 ? 1 : 0));
                    }
                }
                // RAISE and FENCE have no use for a CELL
                for (int cell = 1; cell <= 2; cell++) {
                    int c = cell;
                    refuses(ARGUMENT, made, x -> x.step(p, 3, c, 1));
                    refuses(ARGUMENT, made, x -> x.step(p, 4, c, 0));
                }
            }
        }
        for (int part = 0; part <= 2; part++) {
            int p = part;
            refuses(STATE, full, x -> x.step(p, 0, 2, 9));
            // it comes at the end
            Callorder b = program("RAISE 1", "RAISE 1", "RAISE 1");
            is(b.step(part, 6, 2, 99), 2);
            is(b.step(part, 0, 1, 8), 3);
            int[][] due = {{3, 0, 1}, {6, 2, 99}, {0, 1, 8}};
            for (int place = 0; place < 3; place++) {
                for (int what = 0; what <= 2; what++) {
                    is(b.ofStep(part, place, what), due[place][what]);
                }
            }
            is(b.steps((part + 1) % 3), 1);
        }
    }

    private static void unstep() {
        says(39, "All STEPS of a PART go.", "- `part`: a PART of the PROGRAM", "Returns how many these were.",
                "Throws `IndexOutOfBoundsException` if part is not 0 to 2");
        String[] rows = {"", "RAISE 1", "RAISE 1, RAISE 1", "RAISE 1, RAISE 1, RAISE 1"};
        for (int part = 0; part <= 2; part++) {
            for (int many = 0; many <= 3; many++) {
                String[] parts = {"LOAD 1", "LOAD 1", "LOAD 1"};
                parts[part] = rows[many];
                Callorder b = program(parts);
                is(b.unstep(part), many);
                is(b.steps(part), 0);
                is(b.unstep(part), 0);
                is(b.steps((part + 1) % 3), 1);
                is(b.steps((part + 2) % 3), 1);
                is(b.step(part, 5, 2, 0), 1);
                is(b.ofStep(part, 0, 0), 5);
            }
        }
        for (int part : new int[] {-1, 3, Integer.MIN_VALUE, Integer.MAX_VALUE}) {
            refuses(INDEX, () -> program("LOAD 1", "LOAD 1, FENCE", ""), x -> x.unstep(part));
        }
        // what follows of the PROGRAM is told anew, each question asked alone
        Callorder alike = program("WRITE 0 1", "LOAD 0");
        is(alike.unlike(), 2);
        alike.step(2, 1, 0, 0);
        is(alike.unlike(), 4);
        alike.unstep(1);
        is(alike.unlike(), 2);
        alike.unstep(0);
        is(alike.unlike(), 1);
        for (int model = 0; model <= 1; model++) {
            Callorder stuck = program("TAKE 0, TAKE 0");
            is(stuck.stuck(model), 1);
            stuck.step(1, 5, 0, 0);
            is(stuck.stuck(model), 2);
            stuck.unstep(0);
            is(stuck.stuck(model), 0);
            Callorder fenced = program("WRITE 0 1", "WRITE 0 2");
            is(fenced.fenced(), 2);
            fenced.step(2, 0, 0, 3);
            is(fenced.fenced(), 3);
            fenced.unstep(0);
            fenced.unstep(1);
            is(fenced.fenced(), 1);
            Callorder runs = program("WRITE 0 1", "WRITE 0 1");
            is(runs.runs(model), model == 0 ? 2 : 6);
            runs.unstep(0);
            is(runs.runs(model), 1);
            is(runs.places(model), model == 0 ? 2 : 3);
            is(runs.can(model, 100000), true);
            runs.unstep(1);
            is(runs.can(model, 100000), false);
            is(runs.outcome(model, 0), 0);
        }
        Callorder b = program("WRITE 0 1", "LOAD 0");
        is(b.outcomes(0), 2);
        is(b.unlike(), 2);
        is(b.fenced(), 2);
        b.unstep(1);
        is(b.outcomes(0), 1);
        is(b.runs(1), 1);
        is(b.unlike(), 1);
        is(b.fenced(), 1);
        b.step(1, 0, 0, 2);
        is(Scene.outcomes(b, 0), "100000 200000");
        is(b.unlike(), 2);
        is(b.places(1), 10);
    }

    private static void steps() {
        says(40, "- `part`: a PART of the PROGRAM", "Returns how many STEPS it has.", "Throws `IndexOutOfBoundsException` if part is not 0 to 2");
        Callorder b = program("", "LOAD 1", "LOAD 1, FENCE, FENCE");
        is(b.steps(0), 0);
        is(b.steps(1), 1);
        is(b.steps(2), 3);
        for (int part : new int[] {-1, 3, Integer.MIN_VALUE, Integer.MAX_VALUE}) {
            refuses(INDEX, () -> program("LOAD 1", "LOAD 1, FENCE", ""), x -> x.steps(part));
        }
    }

    private static void ofStep() {
        says(41, "- `part`: a PART of the PROGRAM", "- `place`: the place of a STEP", "- `what`: 0 which STEP, 1 CELL, 2 VALUE", "Returns that.",
                "Throws `IndexOutOfBoundsException` if part is not 0 to 2, or there is no such place",
                "Throws `IllegalArgumentException` if what is not 0 to 2");
        Supplier<Callorder> made = () -> program("WRITE 2 9, LOAD 1, STORE 2", "RAISE 9, FENCE", "SWAP 1 99");
        int[][][] due = {{{0, 2, 9}, {1, 1, 0}, {2, 2, 0}}, {{3, 0, 9}, {4, 0, 0}}, {{6, 1, 99}}};
        for (int part = 0; part <= 2; part++) {
            int p = part;
            for (int place = 0; place < due[part].length; place++) {
                int at = place;
                for (int what = 0; what <= 2; what++) {
                    is(made.get().ofStep(part, place, what), due[part][place][what]);
                }
                for (int what : new int[] {-1, 3, Integer.MIN_VALUE, Integer.MAX_VALUE}) {
                    refuses(ARGUMENT, made, x -> x.ofStep(p, at, what));
                }
            }
            for (int place : new int[] {-1, due[part].length, 3, Integer.MIN_VALUE, Integer.MAX_VALUE}) {
                refuses(INDEX, made, x -> x.ofStep(p, place, 0));
                refuses(INDEX, made, x -> x.ofStep(p, place, 3));
            }
            refuses(INDEX, Callorder::new, x -> x.ofStep(p, 0, 0));
        }
        for (int part : new int[] {-1, 3, Integer.MIN_VALUE, Integer.MAX_VALUE}) {
            refuses(INDEX, made, x -> x.ofStep(part, 0, 0));
            refuses(INDEX, made, x -> x.ofStep(part, 0, 3));
        }
    }

    /** There are two MODELS, 0 and 1. */
    private static void twoModels(IntFunction<Function<Callorder, Object>> by) {
        Supplier<Callorder> made = () -> program("WRITE 0 1", "LOAD 0");
        for (int model : new int[] {-1, 2, Integer.MIN_VALUE, Integer.MAX_VALUE}) {
            refuses(ARGUMENT, made, by.apply(model));
            refuses(ARGUMENT, Callorder::new, by.apply(model));
        }
        for (int model = 0; model <= 1; model++) {
            leaves(made, by.apply(model));
        }
    }

    private static void modelsOnly() {
        says(42, "- `model`: 0 PLAIN, 1 BUFFERED", "Throws `IllegalArgumentException` if model is not 0 or 1");
        twoModels(model -> x -> x.outcomes(model));
        says(43, "- `model`: 0 PLAIN, 1 BUFFERED");
        twoModels(model -> x -> x.outcome(model, 0));
        says(44, "- `model`: 0 PLAIN, 1 BUFFERED", "Throws `IllegalArgumentException` if model is not 0 or 1");
        twoModels(model -> x -> x.can(model, 0));
        says(45, "- `model`: 0 PLAIN, 1 BUFFERED", "Throws `IllegalArgumentException` if model is not 0 or 1");
        twoModels(model -> x -> x.stuck(model));
        says(46, "- `model`: 0 PLAIN, 1 BUFFERED", "Throws `IllegalArgumentException` if model is not 0 or 1");
        twoModels(model -> x -> x.places(model));
        says(47, "- `model`: 0 PLAIN, 1 BUFFERED", "Throws `IllegalArgumentException` if model is not 0 or 1");
        twoModels(model -> x -> x.runs(model));
    }

    private static void outcomes() {
        says(42, "Returns how many unlike OUTCOMES there are, of all RUNS that END.");
        is(new Callorder().outcomes(0), 1);
        is(program("TAKE 0, TAKE 0").outcomes(0), 0);
        is(program("TAKE 0, TAKE 0").outcomes(1), 0);
        is(program("WRITE 0 1", "WRITE 0 1").outcomes(0), 1);
        is(program("WRITE 0 1", "WRITE 0 2").outcomes(0), 2);
        is(program("WRITE 0 1, LOAD 1", "WRITE 1 1, LOAD 0").outcomes(0), 3);
        is(program("WRITE 0 1, LOAD 1", "WRITE 1 1, LOAD 0").outcomes(1), 4);
        // those of RUNS that are STUCK do not count
        is(program("TAKE 0, WRITE 0 0", "TAKE 0, WRITE 0 2").outcomes(0), 1);
    }

    private static void outcome() {
        says(43, "- `place`: which one, from 0 on by rising numbers", "Returns that OUTCOME, or NONE.",
                "Throws `IllegalArgumentException` if model is not 0 or 1, or place is below 0");
        Supplier<Callorder> made = () -> program("WRITE 0 1, LOAD 1", "WRITE 1 1, LOAD 0");
        int[][] due = {{110010, 110100, 110110}, {110000, 110010, 110100, 110110}};
        for (int model = 0; model <= 1; model++) {
            int m = model;
            for (int place = 0; place < due[model].length; place++) {
                is(made.get().outcome(model, place), due[model][place]);
            }
            for (int place : new int[] {due[model].length, due[model].length + 1, 5, 128, 1000, Integer.MAX_VALUE}) {
                is(made.get().outcome(model, place), NONE);
            }
            for (int place : new int[] {-1, -2, Integer.MIN_VALUE}) {
                refuses(ARGUMENT, made, x -> x.outcome(m, place));
            }
            is(program("TAKE 0, TAKE 0").outcome(model, 0), NONE);
            is(new Callorder().outcome(model, 0), 0);
            is(new Callorder().outcome(model, 1), NONE);
        }
        // by rising numbers, in whatever order they come to be
        is(Scene.outcomes(program("WRITE 0 9", "WRITE 0 5", "WRITE 0 7"), 0), "500000 700000 900000");
        is(Scene.outcomes(program("WRITE 0 5", "WRITE 0 9", "WRITE 0 0"), 1), "000000 500000 900000");
    }

    private static void can() {
        says(44, "- `outcome`: a number", "Returns whether it is an OUTCOME of some RUN.");
        Supplier<Callorder> made = () -> program("WRITE 0 1, LOAD 1", "WRITE 1 1, LOAD 0");
        for (int outcome = 109990; outcome <= 110120; outcome++) {
            boolean isPlain = outcome == 110010 || outcome == 110100 || outcome == 110110;
            is(made.get().can(0, outcome), isPlain);
            is(made.get().can(1, outcome), isPlain || outcome == 110000);
        }
        for (int outcome : new int[] {Integer.MIN_VALUE, -1, 0, 999999, 1000000, 1110010, Integer.MAX_VALUE}) {
            is(made.get().can(0, outcome), false);
            is(made.get().can(1, outcome), false);
        }
        is(new Callorder().can(0, 0), true);
        is(new Callorder().can(1, 0), true);
        is(new Callorder().can(0, 1), false);
        is(new Callorder().can(0, -1), false);
        // none at all
        is(program("TAKE 0, TAKE 0").can(0, 0), false);
        is(program("TAKE 0, TAKE 0").can(0, 100000), false);
        is(program("TAKE 0, TAKE 0").can(0, -1), false);
    }

    private static void stuck() {
        says(45, "Returns in how many unlike PLACES a RUN can be STUCK.");
        is(new Callorder().stuck(0), 0);
        is(program("TAKE 0, TAKE 0").stuck(0), 1);
        is(program("TAKE 0", "TAKE 0").stuck(0), 2);
        is(program("TAKE 0", "TAKE 0", "TAKE 0").stuck(0), 3);
        is(program("TAKE 0", "TAKE 0", "TAKE 0").stuck(1), 3);
        is(program("TAKE 0, WRITE 0 0", "TAKE 0, WRITE 0 0").stuck(0), 0);
        is(program("TAKE 0, WRITE 0 0", "TAKE 0, WRITE 0 0").stuck(1), 0);
        // unlike PLACES: by what the HAND holds
        is(program("WRITE 0 5, TAKE 0", "LOAD 0").stuck(0), 2);
        is(program("WRITE 0 5, TAKE 0", "LOAD 1").stuck(0), 1);
    }

    private static void places() {
        says(46, "Returns how many unlike PLACES RUNS can come to, the beginning, too.");
        is(new Callorder().places(0), 1);
        is(new Callorder().places(1), 1);
        is(program("FENCE").places(0), 2);
        is(program("TAKE 0, TAKE 0").places(0), 2);
    }

    private static void runs() {
        says(47, "Returns how many RUNS there are.");
        is(new Callorder().runs(0), 1);
        is(new Callorder().runs(1), 1);
        is(program("TAKE 0, TAKE 0").runs(0), 1);
        is(program("FENCE", "FENCE").runs(0), 2);
        is(program("WRITE 0 1", "FENCE").runs(1), 3);
    }

    private static void unlike() {
        says(48, "Returns how many RUNS of MODEL 0 there are, if all that are ALIKE count as one.");
        leaves(() -> program("WRITE 0 1", "LOAD 0"), x -> x.unlike());
        // of MODEL 0, whatever was asked before
        Callorder b = program("WRITE 0 1, WRITE 1 1", "LOAD 0");
        is(b.runs(1), 10);
        is(b.unlike(), 2);
        is(b.runs(0), 3);
        is(b.unlike(), 2);
    }

    private static void fenced() {
        says(49, "Returns how many unlike OUTCOMES there were in MODEL 1, if behind each WRITE and each STORE stood a FENCE (however many STEPS"
                + " a PART had then).");
        is(new Callorder().fenced(), 1);
        is(program("WRITE 0 1, LOAD 1", "WRITE 1 1, LOAD 0").fenced(), 3);
        is(program("RAISE 1, STORE 0, LOAD 1", "RAISE 1, STORE 1, LOAD 0").fenced(), 3);
        is(program("RAISE 1, STORE 0, LOAD 1", "RAISE 1, STORE 1, LOAD 0").outcomes(1), 4);
        // a PART of three had six then
        is(program("WRITE 0 1, WRITE 1 2, WRITE 2 3", "LOAD 2, STORE 0, LOAD 1").fenced(), program("WRITE 0 1, WRITE 1 2, WRITE 2 3",
                "LOAD 2, STORE 0, LOAD 1").outcomes(0));
        is(program("WRITE 0 1, WRITE 0 2, WRITE 0 3", "WRITE 0 4, WRITE 0 5, WRITE 0 6", "WRITE 0 7, WRITE 0 8, WRITE 0 9").fenced(), 3);
        is(program("TAKE 0, TAKE 0").fenced(), 0);
        is(program("TAKE 0, WRITE 0 0", "TAKE 0").fenced(), 1);
        leaves(() -> program("WRITE 0 1", "LOAD 0"), x -> x.fenced());
    }

    /**
     * Great programs, with how many PLACES and OUTCOMES they have in MODEL 1, as a program in another language
     * counted them; about where the rows of the class become longer, and the greatest ones that are known.
     */
    private static final String[] GREAT = {
        "2368 126: 0,0,3 1,1,0 0,2,6 0,0,2 0,1,5 1,2,0 0,2,1 2,1,0 1,0,0", "2742 127: 0,1,5 1,1,0 0,1,3 0,1,4 2,2,0 1,1,0 0,2,3 1,1,0 0,1,9",
        "2916 128: 0,2,1 0,2,7 1,1,0 0,2,9 0,1,9 1,1,0 0,1,7 0,1,8 1,2,0", "2717 129: 1,2,0 0,0,3 0,2,2 0,2,1 0,2,9 1,0,0 2,2,0 0,0,1 1,2,0",
        "2507 130: 0,0,6 1,0,0 0,0,0 1,0,0 2,1,0 1,0,0 1,0,0 0,0,4 0,0,9", "1017 10: 6,0,85 0,1,5 0,0,0 0,1,6 1,0,0 2,2,0 1,1,0 2,2,0 2,1,0",
        "1018 12: 1,0,0 0,2,8 5,0,0 0,0,7 1,2,0 0,1,6 2,2,0 0,0,3 1,0,0", "1019 12: 2,2,0 1,2,0 0,2,3 1,0,0 1,2,0 2,2,0 0,2,6 0,1,9 0,0,5",
        "1020 11: 1,0,0 2,2,0 1,0,0 2,0,0 0,0,9 2,1,0 0,2,1 2,1,0 2,0,0", "1023 14: 1,0,0 2,2,0 1,1,0 3,0,8 2,2,0 0,0,7 0,0,5 0,1,8 0,2,0",
        "1024 10: 3,0,4 2,2,0 0,0,4 0,2,4 1,2,0 2,0,0 2,2,0 2,2,0 0,2,3", "1025 10: 2,2,0 1,2,0 0,2,7 2,2,0 2,2,0 0,2,8 3,0,7 2,2,0 0,2,9",
        "2041 13: 2,0,0 0,2,8 2,2,0 1,2,0 0,0,9 2,1,0 0,2,3 2,1,0 0,0,9", "2042 12: 0,0,0 2,0,0 1,2,0 0,2,1 0,0,7 0,0,1 2,2,0 2,0,0 0,0,9",
        "2043 16: 2,0,0 1,2,0 2,2,0 0,2,4 2,0,0 2,1,0 2,2,0 0,0,4 0,1,2", "2044 10: 0,1,4 0,0,9 0,0,8 0,2,9 2,1,0 0,0,0 2,2,0 0,0,1 2,1,0",
        "2047 12: 2,1,0 1,2,0 0,1,6 0,2,0 2,1,0 0,2,5 0,2,3 0,1,3 2,1,0", "2048 12: 0,0,8 0,1,8 2,0,0 2,2,0 0,1,7 0,0,9 0,2,8 2,1,0 0,0,0",
        "2049 11: 0,1,3 0,0,5 2,2,0 0,2,7 0,0,9 0,1,0 2,1,0 2,0,0 0,2,1", "4089 192: 0,0,1 1,0,0 0,0,3 0,0,5 1,0,0 0,0,8 1,0,0 0,0,9 0,0,2",
        "4091 82: 6,1,3 0,1,5 0,0,6 1,1,0 0,1,9 0,2,1 1,1,0 0,1,2 2,2,0", "4092 64: 0,1,3 0,1,6 2,0,0 1,1,0 0,1,1 0,0,6 1,1,0 0,1,9 0,0,6",
        "4095 115: 1,1,0 0,1,4 0,2,7 1,1,0 2,2,0 1,1,0 0,1,7 0,1,2 0,1,9", "4090 0: 1,0,0 0,0,6 0,1,3 1,0,0 2,0,0 0,0,9 6,0,5 0,0,1 0,0,3",
        "5152 0: 1,0,0 0,0,4 0,0,9 6,0,8 0,0,2 0,0,1 1,0,0 0,0,7 0,0,5", "5152 0: 6,1,2 0,1,5 0,1,7 1,1,0 0,1,9 0,1,8 1,1,0 0,1,3 0,1,4",
        "0 229: 6,1,91 0,1,3 0,1,2 0,1,9 1,1,0 0,1,5 1,1,0 2,0,0 1,1,0", "0 229: 1,0,0 2,2,0 1,0,0 0,0,1 1,0,0 0,0,4 6,0,12 0,0,3 0,0,8"};

    private static final String GREATEST = "1,0,0 0,0,4 0,0,9 6,0,8 0,0,2 0,0,1 1,0,0 0,0,7 0,0,5";

    private static void put(Callorder b, String steps) {
        String[] each = steps.trim().split(" ");
        for (int i = 0; i < 9; i++) {
            String[] numbers = each[i].split(",");
            b.step(i / 3, Integer.parseInt(numbers[0]), Integer.parseInt(numbers[1]), Integer.parseInt(numbers[2]));
        }
    }

    private static void anyProgram() {
        says("The PROGRAM has three PARTS, 0 to 2, each a row of at most 3 STEPS, none at first;");
        for (String great : GREAT) {
            int places = Integer.parseInt(great.split(" ")[0]);
            int outcomes = Integer.parseInt(great.split("[ :]")[1]);
            String steps = great.substring(great.indexOf(':') + 1);
            Callorder b = new Callorder();
            OracleTest.SlowBench slow = new OracleTest.SlowBench();
            put(b, steps);
            for (String step : steps.trim().split(" ")) {
                String[] numbers = step.split(",");
                int part = slow.steps(0) < 3 ? 0 : slow.steps(1) < 3 ? 1 : 2;
                slow.step(part, Integer.parseInt(numbers[0]), Integer.parseInt(numbers[1]), Integer.parseInt(numbers[2]));
            }
            is(b.places(1), places == 0 ? slow.places(1) : places);
            is(b.outcomes(1), outcomes == 0 ? slow.outcomes(1) : outcomes);
            for (int model = 0; model <= 1; model++) {
                is(b.outcomes(model), slow.outcomes(model));
                for (int place = 0; place <= slow.outcomes(model); place++) {
                    is(b.outcome(model, place), slow.outcome(model, place));
                }
                is(b.stuck(model), slow.stuck(model));
                is(b.places(model), slow.places(model));
                is(b.runs(model), slow.runs(model));
            }
            is(b.unlike(), slow.unlike());
            is(b.fenced(), slow.fenced());
            is(b.fenced(), b.outcomes(0));
            is(b.isSound(), true);
            // what was told of the smaller MODEL stays when the greater one has been gone through behind it
            Callorder other = new Callorder();
            put(other, steps);
            is(other.outcomes(0), slow.outcomes(0));
            is(other.fenced(), slow.fenced());
            is(other.outcomes(1), slow.outcomes(1));
            for (int place = 0; place <= slow.outcomes(0); place++) {
                is(other.outcome(0, place), slow.outcome(0, place));
            }
            is(other.can(0, slow.outcome(0, 0)), true);
        }
    }

    private static void askedInAnyOrder() {
        says("The PROGRAM has three PARTS, 0 to 2, each a row of at most 3 STEPS, none at first;");
        // small and great ones by turns on one bench, and MODELS by turns: none leaves anything to the next one
        Callorder b = new Callorder();
        for (int turn = 0; turn < 4; turn++) {
            put(b, GREATEST);
            is(b.places(1), 5152);
            is(b.fenced(), b.outcomes(0));
            clear(b);
            runs(b, 1, "000000", 0, 1, 1);
            runs(b, 0, "000000", 0, 1, 1);
            put(b, GREAT[turn].substring(GREAT[turn].indexOf(':') + 1));
            is(b.outcomes(1), 126 + turn);
            is(b.places(1), Integer.parseInt(GREAT[turn].split(" ")[0]));
            clear(b);
            Scene.put(b, "WRITE 0 1, LOAD 1", "WRITE 1 1, LOAD 0");
            runs(b, turn % 2, turn % 2 == 0 ? "110010 110100 110110" : "110000 110010 110100 110110", 0, turn % 2 == 0 ? 13 : 34,
                    turn % 2 == 0 ? 6 : 80);
            clear(b);
        }
    }

    private static void clear(Callorder b) {
        for (int part = 0; part <= 2; part++) {
            b.unstep(part);
        }
    }
}
