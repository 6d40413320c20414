import java.util.concurrent.Callable;

/** For each promise: ordinary inputs, the edges that the document names, and wrong inputs, with answers worked out by hand. */
public final class PromiseTest {
    private static final Class<?> INDEX = IndexOutOfBoundsException.class;
    private static final Class<?> ARGUMENT = IllegalArgumentException.class;
    private static final Class<?> STATE = IllegalStateException.class;
    private static final int REGISTER = 0;
    private static final int QUEUE = 1;
    private static final int STACK = 2;
    private static final int SET = 3;
    private static final int COUNTER = 4;
    private static final int LOCK = 5;
    private static final int CELL = 6;
    private static final int[] LOW_AND_HIGH = {Integer.MIN_VALUE, -1};

    private static final int[] checks = new int[54];
    private static int wrong = 0;

    private static void is(int promise, Object got, Object due) {
        checks[promise]++;
        if (!got.equals(due)) {
            wrong++;
            StackTraceElement at = new Throwable().getStackTrace()[1];
            System.out.println("promise " + promise + ", line " + at.getLineNumber() + ": answered " + got + ", due is " + due);
        }
    }

    /** The call throws just this, and changes nothing that the digest sees. */
    private static void fails(int promise, Class<?> due, Callorder bench, Callable<?> call) {
        checks[promise]++;
        long before = bench.digest();
        Object got;
        try {
            got = call.call();
        } catch (Exception e) {
            got = e.getClass();
        }
        StackTraceElement at = new Throwable().getStackTrace()[1];
        if (!due.equals(got)) {
            wrong++;
            System.out.println("promise " + promise + ", line " + at.getLineNumber() + ": " + got + ", due is " + due);
        }
        if (bench.digest() != before) {
            wrong++;
            System.out.println("promise " + promise + ", line " + at.getLineNumber() + ": changed something, though it threw");
        }
    }

    private static Callorder with(int... kinds) {
        Callorder bench = new Callorder();
        for (int kind : kinds) {
            bench.thing(kind);
        }
        return bench;
    }

    public static void main(String[] args) {
        aNewObject();
        thingsAndCalls();
        changesOfCalls();
        tapes();
        trials();
        theStore();
        askedOfCalls();
        texts();
        causes();
        orders();
        hangingOrders();
        joined();
        behind();
        cores();
        fastRegister();
        fastQueue();
        fastSet();
        fastOfAllValues();
        promises();
        steps();
        plainRuns();
        bufferedRuns();
        stuckRuns();
        unlikeRuns();
        allOfIt();
        for (int promise = 1; promise <= 53; promise++) {
            if (checks[promise] == 0) {
                wrong++;
                System.out.println("promise " + promise + " has no test");
            }
        }
        System.out.println("PromiseTest: " + wrong + " wrong");
        if (wrong > 0) {
            System.exit(1);
        }
    }

    private static void aNewObject() {
        Callorder b = new Callorder();
        for (int what = 0; what <= 5; what++) {
            is(1, b.bench(what), 0);
        }
        for (int part = 0; part <= 2; part++) {
            is(1, b.steps(part), 0);
        }
        is(1, b.fits(-1), true);
        is(1, b.first(-1), "");
        is(1, b.orders(-1), 1L);
        is(1, b.promises(), 15);
        is(1, b.drawn(0), "");
        is(1, b.ofCopy(2, 0), 0);
        is(1, b.outcomes(0), 1);
        is(1, b.isSound(), true);
        is(1, new Callorder().digest(), -2425861325161365690L);
    }

    private static void thingsAndCalls() {
        Callorder b = new Callorder();
        fails(2, ARGUMENT, b, () -> b.thing(7));
        fails(2, ARGUMENT, b, () -> b.thing(-1));
        for (int number = 0; number < 4; number++) {
            is(2, b.thing(6 - number), number);
        }
        fails(2, STATE, b, () -> b.thing(0));
        fails(2, ARGUMENT, b, () -> b.thing(7));
        is(19, b.kindOf(0), 6);
        is(19, b.kindOf(3), 3);
        fails(19, INDEX, b, () -> b.kindOf(4));
        fails(19, INDEX, b, () -> b.kindOf(-1));

        Callorder c = with(CELL, SET, LOCK);
        fails(3, INDEX, c, () -> c.begin(3, 0, 0, 0));
        fails(3, INDEX, c, () -> c.begin(-1, 0, 0, 0));
        fails(3, INDEX, c, () -> c.begin(0, 3, 9, 0));
        fails(3, ARGUMENT, c, () -> c.begin(0, 0, 3, 0));
        fails(3, ARGUMENT, c, () -> c.begin(0, 0, -1, 0));
        fails(3, ARGUMENT, c, () -> c.begin(0, 0, 0, 10));
        fails(3, ARGUMENT, c, () -> c.begin(0, 0, 1, 1));
        fails(3, ARGUMENT, c, () -> c.begin(0, 0, 2, 100));
        fails(3, ARGUMENT, c, () -> c.begin(0, 1, 2, 0));
        fails(3, ARGUMENT, c, () -> c.begin(0, 1, 0, 10));
        fails(3, ARGUMENT, c, () -> c.begin(0, 2, 0, 1));
        fails(3, ARGUMENT, c, () -> c.begin(0, 2, 2, 0));
        is(3, c.begin(0, 0, 0, 0), 0);
        fails(3, STATE, c, () -> c.begin(0, 0, 0, 0));
        fails(3, ARGUMENT, c, () -> c.begin(0, 0, 0, -1));
        is(3, c.begin(2, 0, 2, 99), 1);
        fails(4, INDEX, c, () -> c.end(3, 100));
        fails(4, ARGUMENT, c, () -> c.end(1, 100));
        fails(4, ARGUMENT, c, () -> c.end(0, -1));
        fails(4, STATE, c, () -> c.end(1, 0));
        is(4, c.end(2, 99), 1);
        is(4, c.end(0, 0), 0);
        fails(4, STATE, c, () -> c.end(0, 0));
        is(20, c.ofCall(0, 4), 0);
        is(20, c.ofCall(0, 5), 3);
        is(20, c.ofCall(1, 4), 1);
        is(20, c.ofCall(1, 5), 2);

        fails(5, INDEX, c, () -> c.call(3, 0, 0, 0, 0));
        fails(5, INDEX, c, () -> c.call(0, 3, 0, 0, 0));
        fails(5, ARGUMENT, c, () -> c.call(0, 0, 3, 0, 0));
        fails(5, ARGUMENT, c, () -> c.call(0, 0, 1, 2, 0));
        fails(5, ARGUMENT, c, () -> c.call(0, 0, 1, 0, 100));
        is(5, c.call(1, 1, 0, 9, 1), 2);
        is(20, c.ofCall(2, 4), 4);
        is(20, c.ofCall(2, 5), 5);
        is(3, c.begin(1, 1, 2, 9), 3);
        fails(5, STATE, c, () -> c.call(1, 0, 1, 0, 0));
        for (int number = 4; number < 9; number++) {
            is(5, c.call(0, 2, 1, 0, 0), number);
        }
        fails(5, STATE, c, () -> c.call(0, 2, 1, 0, 0));
        fails(3, STATE, c, () -> c.begin(2, 2, 1, 0));
        is(4, c.end(1, 1), 3);
    }

    private static void changesOfCalls() {
        Callorder b = with(REGISTER);
        b.call(0, 0, 0, 5, 0);
        b.begin(1, 0, 1, 0);
        b.call(2, 0, 1, 0, 5);
        fails(6, INDEX, b, () -> b.retell(3, 100));
        fails(6, ARGUMENT, b, () -> b.retell(1, 100));
        fails(6, ARGUMENT, b, () -> b.retell(0, -1));
        fails(6, STATE, b, () -> b.retell(1, 0));
        is(6, b.retell(2, 99), 5);
        is(6, b.retell(2, 5), 99);
        is(20, b.ofCall(2, 6), 5);
        for (int call : LOW_AND_HIGH) {
            fails(7, INDEX, b, () -> b.forget(call));
        }
        fails(7, INDEX, b, () -> b.forget(3));
        is(7, b.forget(1), 2);
        is(20, b.ofCall(1, 0), 2);
        is(20, b.ofCall(1, 4), 3);
        is(21, b.bench(3), 5);
        is(3, b.begin(1, 0, 1, 0), 2);
        is(20, b.ofCall(2, 4), 5);
        is(26, b.drawn(1), ".....[");
        is(8, b.wipe(false), 3);
        is(21, b.bench(0), 1);
        is(21, b.bench(1), 0);
        is(21, b.bench(3), 0);
        is(8, b.wipe(true), 0);
        is(21, b.bench(0), 0);
        is(2, b.thing(3), 0);
    }

    private static void tapes() {
        Callorder b = with(QUEUE);
        b.step(0, 0, 0, 1);
        b.step(1, 1, 0, 0);
        b.call(0, 0, 0, 5, 0);
        fails(9, ARGUMENT, b, () -> b.tape(2, 0));
        fails(9, ARGUMENT, b, () -> b.tape(-1, 0));
        fails(9, ARGUMENT, b, () -> b.tape(0, 4096));
        fails(9, ARGUMENT, b, () -> b.tape(0, -1));
        // seed 0 becomes 31, and 31 / 8 % 2 is 1: PART 1 first
        is(9, b.tape(0, 0), 2);
        is(21, b.bench(0), 3);
        is(19, b.kindOf(2), CELL);
        is(25, b.text(0), "T1 CELL0.READ() = 0");
        is(25, b.text(1), "T0 CELL0.WRITE(1) = 0");
        is(21, b.bench(3), 4);
        // seed 8 becomes 647, and 647 / 8 % 2 is 0: PART 0 first; buffered, the first step of 1 may come ahead of the flush
        is(9, b.tape(0, 8), 2);
        is(25, b.text(0), "T0 CELL0.WRITE(1) = 0");
        is(25, b.text(1), "T1 CELL0.READ() = 1");
        b.unstep(1);
        b.step(1, 5, 2, 0);
        b.step(1, 6, 2, 13);
        b.step(1, 2, 1, 0);
        is(9, b.tape(1, 7), 4);
        is(20, b.ofCall(3, 0) >= 0, true);
        Callorder c = new Callorder();
        c.step(2, 5, 2, 0);
        c.step(2, 6, 2, 13);
        c.step(2, 2, 1, 0);
        is(9, c.tape(1, 7), 3);
        is(25, c.text(0), "T2 CELL2.SWAP(1) = 1");
        is(25, c.text(1), "T2 CELL2.SWAP(13) = 1");
        is(25, c.text(2), "T2 CELL1.WRITE(1) = 0");
        is(9, new Callorder().tape(0, 4095), 0);
        // in a tape of the buffered model a write may come ahead of a read that does not see it
        Callorder d = new Callorder();
        d.step(0, 0, 0, 1);
        d.step(0, 1, 1, 0);
        d.step(1, 0, 1, 1);
        d.step(1, 1, 0, 0);
        int weak = 0;
        for (int seed = 0; seed < 40; seed++) {
            d.tape(0, seed);
            is(9, d.fits(-1), true);
            d.tape(1, seed);
            weak += d.fits(-1) ? 0 : 1;
        }
        is(9, weak > 0, true);
    }

    private static void trials() {
        Callorder b = with(REGISTER, REGISTER);
        b.call(0, 0, 0, 1, 0);
        fails(10, ARGUMENT, b, () -> b.trial(7, 0, 0));
        fails(10, ARGUMENT, b, () -> b.trial(-1, 0, 0));
        fails(10, ARGUMENT, b, () -> b.trial(0, 4, 0));
        fails(10, ARGUMENT, b, () -> b.trial(0, -1, 0));
        fails(10, ARGUMENT, b, () -> b.trial(0, 0, 4096));
        fails(10, ARGUMENT, b, () -> b.trial(0, 0, -1));
        for (int kind = 0; kind <= 6; kind++) {
            for (int seed = 0; seed < 40; seed++) {
                int hang = b.trial(kind, 0, seed);
                is(10, b.bench(2), hang);
                is(10, b.bench(0), 1);
                is(10, b.kindOf(0), kind);
                is(10, b.fits(-1), true);
                is(10, b.bench(3), b.bench(1) * 2 - hang);
            }
        }
        is(10, b.trial(4, 2, 9), 0);
        is(10, b.fits(0), false);
        is(10, b.core(0), 256);
        is(10, b.trial(3, 1, 33), 0);
        is(10, b.drawn(0), "[-]..[-][----]....");
        is(50, b.found(4, 2, 8), 7);
        is(50, b.found(4, 0, 8), 0);
        is(50, b.found(5, 3, 4), 0);
        is(50, b.kindOf(0), 3);
        for (int kind = 0; kind <= 6; kind++) {
            for (int fault = 0; fault <= 3; fault++) {
                Callorder c = new Callorder();
                int bad = 0;
                for (int seed = 0; seed < 8; seed++) {
                    c.trial(kind, fault, seed);
                    bad += c.fits(-1) ? 0 : 1;
                    is(50, b.found(kind, fault, seed + 1), bad);
                }
            }
        }
        fails(50, ARGUMENT, b, () -> b.found(7, 0, 1));
        fails(50, ARGUMENT, b, () -> b.found(0, 4, 1));
        fails(50, ARGUMENT, b, () -> b.found(0, 0, 0));
        fails(50, ARGUMENT, b, () -> b.found(0, 0, 9));
    }

    private static void theStore() {
        Callorder b = new Callorder();
        fails(11, INDEX, b, () -> b.write(3, 0));
        fails(11, ARGUMENT, b, () -> b.write(0, 0));
        fails(11, ARGUMENT, b, () -> b.write(0, 10));
        fails(11, STATE, b, () -> b.write(0, 1));
        fails(12, INDEX, b, () -> b.read(-1));
        fails(12, STATE, b, () -> b.read(0));
        b.thing(CELL);
        fails(11, STATE, b, () -> b.write(0, 1));
        fails(12, STATE, b, () -> b.read(0));
        b.wipe(true);
        b.thing(REGISTER);
        is(11, b.write(1, 7), 1);
        is(25, b.text(0), "T1 REGISTER0.WRITE(7) = 0");
        is(16, b.ofCopy(1, 0), 7);
        is(16, b.ofCopy(1, 1), 1);
        is(16, b.ofCopy(1, 2), 1);
        is(21, b.bench(4), 2);
        is(17, b.ofMessage(0, 0), 0);
        is(17, b.ofMessage(1, 0), 2);
        is(17, b.ofMessage(1, 1), 7);
        is(17, b.ofMessage(1, 2), 1);
        is(17, b.ofMessage(1, 3), 1);
        is(12, b.read(1), 7);
        is(12, b.read(0), 0);
        is(25, b.text(2), "T0 REGISTER0.READ() = 0");
        is(18, b.spread(), 1);
        is(15, b.repeat(0), 3);
        is(17, b.ofMessage(2, 0), 0);
        is(14, b.lose(1), 2);
        is(18, b.spread(), 2);
        is(13, b.deliver(0), true);
        is(16, b.ofCopy(0, 0), 7);
        is(16, b.ofCopy(0, 2), 1);
        is(13, b.deliver(0), false);
        is(21, b.bench(4), 0);
        fails(13, INDEX, b, () -> b.deliver(0));
        fails(14, INDEX, b, () -> b.lose(0));
        fails(15, INDEX, b, () -> b.repeat(-1));
        fails(16, INDEX, b, () -> b.ofCopy(3, 9));
        fails(16, ARGUMENT, b, () -> b.ofCopy(0, 3));
        fails(16, ARGUMENT, b, () -> b.ofCopy(0, -1));
        fails(17, INDEX, b, () -> b.ofMessage(0, 9));
        is(11, b.write(2, 8), 1);
        fails(17, ARGUMENT, b, () -> b.ofMessage(0, 4));
        fails(17, ARGUMENT, b, () -> b.ofMessage(0, -1));
        // the same COUNT: the stamp of COPY 2 is later than that of COPY 1, not the other way round
        is(13, b.deliver(1), true);
        is(16, b.ofCopy(1, 0), 8);
        is(11, b.write(0, 3), 2);
        is(11, b.write(0, 4), 3);
        is(21, b.bench(4), 5);
        is(15, b.repeat(4), 6);
        is(11, b.write(0, 5), 4);
        is(21, b.bench(4), 8);
        fails(11, STATE, b, () -> b.write(0, 5));
        fails(15, STATE, b, () -> b.repeat(0));
        is(14, b.lose(7), 7);
        fails(11, STATE, b, () -> b.write(0, 5));
        is(8, b.wipe(false), 7);
        is(21, b.bench(4), 7);
        b.trial(1, 0, 0);
        b.tape(0, 0);
        is(16, b.ofCopy(0, 0), 5);
        b.wipe(true);
        b.thing(REGISTER);
        b.begin(1, 0, 1, 0);
        fails(12, STATE, b, () -> b.read(1));
        is(14, b.lose(6), 6);
        fails(11, STATE, b, () -> b.write(1, 5));
        for (int number = 1; number < 9; number++) {
            is(12, b.read(0), 5);
        }
        fails(12, STATE, b, () -> b.read(0));
        fails(11, STATE, b, () -> b.write(0, 5));
    }

    private static void askedOfCalls() {
        Callorder b = with(REGISTER, SET);
        b.begin(2, 1, 1, 4);
        b.call(0, 0, 0, 3, 0);
        b.end(2, 0);
        b.call(1, 0, 1, 0, 3);
        b.begin(0, 0, 1, 0);
        int[] due = {0, 0, 1, 0, 6, -1, -1};
        for (int what = 0; what <= 6; what++) {
            is(20, b.ofCall(3, what), due[what]);
        }
        int[] first = {2, 1, 1, 4, 0, 3, 0};
        for (int what = 0; what <= 6; what++) {
            is(20, b.ofCall(0, what), first[what]);
        }
        fails(20, INDEX, b, () -> b.ofCall(4, 7));
        fails(20, INDEX, b, () -> b.ofCall(-1, 0));
        fails(20, ARGUMENT, b, () -> b.ofCall(0, 7));
        fails(20, ARGUMENT, b, () -> b.ofCall(0, -1));
        int[] counts = {2, 4, 1, 7, 0, 0};
        for (int what = 0; what <= 5; what++) {
            is(21, b.bench(what), counts[what]);
        }
        fails(21, ARGUMENT, b, () -> b.bench(6));
        fails(21, ARGUMENT, b, () -> b.bench(-1));
        is(22, b.isAhead(1, 2), true);
        is(22, b.isAhead(2, 1), false);
        is(22, b.isAhead(0, 1), false);
        is(22, b.isAhead(1, 0), false);
        is(22, b.isAhead(0, 2), true);
        is(22, b.isAhead(3, 3), false);
        is(22, b.isAhead(2, 3), true);
        is(22, b.isAhead(3, 0), false);
        fails(22, INDEX, b, () -> b.isAhead(0, 4));
        fails(22, INDEX, b, () -> b.isAhead(-1, 0));
        is(26, b.drawn(0), ".[]...[");
        is(26, b.drawn(1), "....[].");
        is(26, b.drawn(2), "[--]...");
        b.call(2, 0, 1, 0, 3);
        is(26, b.drawn(0), ".[]...[--");
        fails(26, INDEX, b, () -> b.drawn(3));
        fails(26, INDEX, b, () -> b.drawn(-1));
    }

    private static void texts() {
        String[][] names = {
            {"REGISTER", "WRITE(1)", "READ()"}, {"QUEUE", "PUT(1)", "TAKE()"}, {"STACK", "PUT(1)", "TAKE()"},
            {"SET", "ADD(1)", "REMOVE(1)", "HAS(1)"}, {"COUNTER", "ADD(1)", "READ()"}, {"LOCK", "TAKE()", "FREE()"},
            {"CELL", "WRITE(1)", "READ()", "SWAP(1)"}};
        for (int kind = 0; kind <= 6; kind++) {
            Callorder b = with(LOCK, kind);
            for (int op = 0; op + 1 < names[kind].length; op++) {
                String name = names[kind][op + 1];
                int value = name.endsWith("(1)") ? 1 : 0;
                int call = b.call(op, 1, op, value, 10 + op);
                is(25, b.text(call), "T" + op + " " + names[kind][0] + "1." + name + " = " + (10 + op));
            }
        }
        Callorder b = with(CELL, LOCK);
        b.call(0, 0, 0, 0, 0);
        b.begin(2, 1, 0, 0);
        is(25, b.text(0), "T0 CELL0.WRITE(0) = 0");
        is(25, b.text(1), "T2 LOCK1.TAKE() = ?");
        fails(25, INDEX, b, () -> b.text(2));
        fails(25, INDEX, b, () -> b.text(-1));
        fails(24, INDEX, b, () -> b.clock(2));
        fails(24, INDEX, b, () -> b.clock(-1));
    }

    private static void causes() {
        Callorder b = with(REGISTER, STACK, CELL);
        b.call(0, 0, 0, 4, 0);
        b.call(1, 0, 1, 0, 4);
        b.call(1, 1, 0, 4, 0);
        b.call(2, 1, 1, 0, 4);
        is(23, b.isCause(0, 1), true);
        is(23, b.isCause(1, 2), true);
        is(23, b.isCause(0, 3), true);
        is(23, b.isCause(3, 0), false);
        is(23, b.isCause(0, 0), false);
        is(24, b.clock(0), "1,0,0");
        is(24, b.clock(3), "1,2,1");
        fails(23, INDEX, b, () -> b.isCause(4, 0));
        fails(23, INDEX, b, () -> b.isCause(0, -1));
        // a second PUT of the value: it is no longer known whose value was taken
        b.begin(0, 1, 0, 4);
        is(23, b.isCause(2, 3), false);
        is(24, b.clock(3), "0,0,1");
        b.forget(4);
        is(23, b.isCause(2, 3), true);
        b.retell(3, 5);
        is(23, b.isCause(2, 3), false);
        // a CELL hands nothing on
        b.call(0, 2, 0, 7, 0);
        b.call(2, 2, 1, 0, 7);
        is(23, b.isCause(4, 5), false);
        // what a CALL that HANGS wrote may be read; a READ that HANGS has no ANSWER
        Callorder c = with(REGISTER, QUEUE);
        c.begin(0, 0, 0, 4);
        c.call(1, 0, 1, 0, 4);
        c.begin(2, 0, 1, 0);
        is(23, c.isCause(0, 1), true);
        is(23, c.isCause(0, 2), false);
        // a ring: each THREAD reads what the other one writes behind
        Callorder d = with(REGISTER, REGISTER);
        d.call(0, 0, 1, 0, 1);
        d.call(0, 1, 0, 2, 0);
        d.call(1, 1, 1, 0, 2);
        d.call(1, 0, 0, 1, 0);
        for (int call = 0; call < 4; call++) {
            is(23, d.isCause(call, call), true);
            is(24, d.clock(call), "2,2,0");
        }
    }

    private static void orders() {
        Callorder b = with(REGISTER, QUEUE);
        b.begin(0, 0, 0, 1);
        b.begin(1, 0, 0, 2);
        b.end(0, 0);
        b.end(1, 0);
        is(27, b.fits(0), true);
        is(28, b.first(0), "0 1");
        is(29, b.orders(0), 2L);
        b.call(2, 0, 1, 0, 1);
        is(28, b.first(0), "1 0 2");
        is(28, b.first(-1), "1 0 2");
        is(29, b.orders(-1), 1L);
        is(28, b.first(1), "");
        is(29, b.orders(1), 1L);
        is(32, b.wouldFit(2, 2), true);
        is(32, b.wouldFit(2, 0), false);
        is(32, b.wouldFit(0, 1), false);
        is(20, b.ofCall(2, 6), 1);
        b.call(0, 1, 1, 0, 3);
        is(27, b.fits(0), true);
        is(27, b.fits(1), false);
        is(27, b.fits(-1), false);
        is(28, b.first(-1), "none");
        is(29, b.orders(1), 0L);
        is(30, b.joined(), "none");
        is(32, b.wouldFit(3, 0), true);
        for (int part : new int[] {2, -2}) {
            fails(27, INDEX, b, () -> b.fits(part));
            fails(28, INDEX, b, () -> b.first(part));
            fails(29, INDEX, b, () -> b.orders(part));
            fails(33, INDEX, b, () -> b.core(part));
        }
        fails(32, INDEX, b, () -> b.wouldFit(4, 100));
        fails(32, ARGUMENT, b, () -> b.wouldFit(3, 100));
        fails(32, ARGUMENT, b, () -> b.wouldFit(3, -1));
        b.begin(0, 1, 1, 0);
        fails(32, STATE, b, () -> b.wouldFit(4, 0));
        // nine adds of three threads, all of which overlap: 9! / (3! 3! 3!) orders of threads, fewer in time
        Callorder c = with(SET);
        for (int call = 0; call < 9; call++) {
            if (call > 2) {
                c.end(call % 3, 1);
            }
            c.begin(call % 3, 0, 0, call + 1);
        }
        for (int thread = 0; thread < 3; thread++) {
            c.end(thread, 1);
        }
        is(28, c.first(0), "0 1 2 3 4 5 6 7 8");
        // in time a call may come only behind those that ended ahead of its begin
        is(29, c.orders(0), brute(c));
    }

    /** Counts orders of all calls by their times alone. */
    private static long brute(Callorder bench) {
        return brute(bench, 0);
    }

    private static long brute(Callorder bench, int placed) {
        int calls = bench.bench(1);
        if (placed == (1 << calls) - 1) {
            return 1;
        }
        long sum = 0;
        for (int call = 0; call < calls; call++) {
            boolean isNext = (placed >> call & 1) == 0;
            for (int other = 0; other < calls; other++) {
                isNext &= (placed >> other & 1) == 1 || !bench.isAhead(other, call);
            }
            sum += isNext ? brute(bench, placed | 1 << call) : 0;
        }
        return sum;
    }

    private static void hangingOrders() {
        Callorder b = with(QUEUE);
        b.begin(0, 0, 0, 1);
        is(28, b.first(0), "");
        is(29, b.orders(0), 2L);
        b.call(1, 0, 1, 0, 0);
        // "0 1" is answered 1, so the put comes behind or not at all
        is(28, b.first(0), "1");
        is(29, b.orders(0), 2L);
        b.call(1, 0, 1, 0, 1);
        is(28, b.first(0), "1 0 2");
        is(29, b.orders(0), 1L);
        is(33, b.core(0), 0);
        b.call(2, 0, 1, 0, 1);
        is(27, b.fits(0), false);
        is(33, b.core(0), 1 << 3 | 1 << 2);
        // all three hang: each set of them in each order
        Callorder c = with(SET);
        c.begin(0, 0, 0, 1);
        c.begin(1, 0, 0, 1);
        c.begin(2, 0, 2, 1);
        is(29, c.orders(-1), 1L + 3 + 6 + 6);
        is(28, c.first(-1), "");
        is(30, c.joined(), "");
        is(34, c.fast(0), 1);
    }

    private static void joined() {
        Callorder b = with(REGISTER, REGISTER);
        // 0: T0 writes A; 1: T1 reads A 0 (so 1 first there); 2: T0 writes B; 3: T1 reads B
        b.begin(0, 0, 0, 1);
        b.begin(1, 0, 1, 0);
        b.end(0, 0);
        b.begin(0, 1, 0, 1);
        b.end(1, 0);
        b.begin(1, 1, 1, 0);
        b.end(0, 0);
        b.end(1, 1);
        is(28, b.first(0), "1 0");
        is(28, b.first(1), "2 3");
        is(30, b.joined(), "1 0 2 3");
        is(28, b.first(-1), "1 0 2 3");
        // the two differ: the first order of all takes the smallest number, joined has to keep each row
        Callorder c = with(REGISTER, REGISTER);
        c.begin(0, 0, 0, 1);
        c.begin(1, 1, 0, 2);
        c.begin(2, 0, 1, 0);
        c.end(0, 0);
        c.end(1, 0);
        c.end(2, 0);
        is(28, c.first(0), "2 0");
        is(28, c.first(-1), "1 2 0");
        is(30, c.joined(), "1 2 0");
        is(30, with().joined(), "");
    }

    private static void behind() {
        Callorder b = with(QUEUE, STACK, SET, LOCK);
        b.call(0, 0, 0, 3, 0);
        b.call(0, 0, 0, 4, 0);
        b.call(0, 1, 0, 3, 0);
        b.call(0, 1, 0, 4, 0);
        b.call(0, 2, 0, 9, 1);
        b.call(0, 2, 0, 2, 1);
        b.call(1, 3, 0, 0, 1);
        b.call(2, 3, 1, 0, 0);
        b.call(1, 3, 1, 0, 1);
        is(31, b.behind(0, 0), "");
        is(31, b.behind(0, 1), "3");
        is(31, b.behind(0, 2), "3 4");
        is(31, b.behind(0, 3), "none");
        is(31, b.behind(1, 2), "3 4");
        is(31, b.behind(2, 0), "");
        is(31, b.behind(2, 2), "2 9");
        is(31, b.behind(3, 0), "free");
        is(31, b.behind(3, 1), "T1");
        is(31, b.behind(3, 2), "T1");
        is(31, b.behind(3, 3), "free");
        is(31, b.behind(3, Integer.MAX_VALUE), "none");
        fails(31, INDEX, b, () -> b.behind(4, -1));
        fails(31, INDEX, b, () -> b.behind(-1, 0));
        fails(31, ARGUMENT, b, () -> b.behind(0, -1));
        b.retell(8, 0);
        is(31, b.behind(3, 1), "none");
        Callorder c = with(COUNTER, CELL, REGISTER);
        for (int call = 0; call < 3; call++) {
            c.call(0, 0, 0, 9, 9 * (call + 1));
        }
        c.call(1, 1, 2, 7, 1);
        c.call(1, 1, 2, 12, 0);
        c.call(2, 2, 0, 6, 0);
        is(31, c.behind(0, 3), "27");
        is(31, c.behind(1, 0), "0");
        is(31, c.behind(1, 1), "7");
        is(31, c.behind(1, 2), "7");
        is(31, c.behind(2, 1), "6");
        is(31, c.behind(2, 0), "0");
    }

    private static void cores() {
        Callorder b = with(REGISTER, QUEUE);
        b.call(0, 0, 0, 1, 0);
        b.call(1, 0, 1, 0, 0);
        b.call(2, 1, 0, 5, 0);
        is(33, b.core(0), 2);
        is(33, b.core(-1), 2);
        is(33, b.core(1), 0);
        b.call(2, 1, 1, 0, 6);
        // each of the two bad ones alone keeps the whole from fitting: the last one taken up stays
        is(33, b.core(-1), 8);
        is(33, b.core(0), 2);
        is(33, b.core(1), 8);
        // two takes of one value, one behind the other: whatever the first one was answered, it took it
        Callorder c = with(STACK);
        c.call(0, 0, 0, 1, 0);
        c.call(0, 0, 1, 0, 1);
        c.call(0, 0, 1, 0, 1);
        is(33, c.core(0), 4);
        c.retell(2, 0);
        is(33, c.core(0), 0);
        is(33, c.core(-1), 0);
    }

    private static void why(Callorder b, int thing, int reason, int first, int second) {
        is(34, b.fast(thing), reason == -1 ? 1 : 0);
        is(35, b.why(thing, 0), reason);
        is(35, b.why(thing, 1), first);
        is(35, b.why(thing, 2), second);
        is(34, b.fits(thing), reason == -1);
    }

    private static void fastRegister() {
        Callorder b = with(REGISTER, STACK, COUNTER, LOCK);
        why(b, 0, -1, -1, -1);
        is(34, b.fast(1), -1);
        is(34, b.fast(2), -1);
        is(34, b.fast(3), -1);
        is(35, b.why(1, 0), -1);
        fails(34, INDEX, b, () -> b.fast(4));
        fails(34, INDEX, b, () -> b.fast(-1));
        fails(35, INDEX, b, () -> b.why(4, 3));
        fails(35, ARGUMENT, b, () -> b.why(0, 3));
        fails(35, ARGUMENT, b, () -> b.why(1, -1));
        is(34, with(CELL).fast(0), -1);
        b.call(0, 0, 0, 8, 0);
        b.call(1, 0, 0, 3, 0);
        why(b, 0, -1, -1, -1);
        b.call(2, 0, 1, 0, 8);
        why(b, 0, 3, 3, 8);
        b.call(2, 0, 1, 0, 3);
        b.retell(2, 3);
        why(b, 0, -1, -1, -1);
        b.retell(3, 0);
        why(b, 0, 3, 0, 3);
        b.retell(0, 1);
        b.retell(3, 3);
        why(b, 0, 5, 8, -1);
        b.retell(1, 1);
        why(b, 0, 5, 3, -1);
        b.retell(3, 99);
        why(b, 0, 1, 99, -1);
        b.retell(2, 7);
        why(b, 0, 1, 7, -1);
        b.retell(2, 3);
        b.retell(3, 3);
        b.begin(0, 0, 1, 0);
        is(34, b.fast(0), -1);
        is(35, b.why(0, 0), -1);
        b.end(0, 3);
        is(34, b.fast(0), 0);
        b.call(0, 0, 0, 8, 0);
        is(34, b.fast(0), -1);
        // a READ ahead of the WRITE of what it was answered
        Callorder c = with(REGISTER);
        c.call(0, 0, 1, 0, 5);
        why(c, 0, 1, 5, -1);
        c.call(0, 0, 0, 5, 0);
        why(c, 0, 2, 5, -1);
        c.call(1, 0, 1, 0, 4);
        why(c, 0, 1, 4, -1);
        c.call(1, 0, 0, 4, 0);
        why(c, 0, 2, 4, -1);
    }

    private static void fastQueue() {
        Callorder b = with(QUEUE);
        why(b, 0, -1, -1, -1);
        b.call(0, 0, 1, 0, 5);
        why(b, 0, 1, 5, -1);
        b.call(0, 0, 0, 5, 0);
        why(b, 0, 1, 5, -1);
        b.retell(0, 0);
        why(b, 0, -1, -1, -1);
        b.call(1, 0, 0, 2, 0);
        // 5 was put ahead of 2, and 2 was taken, but not 5
        b.call(2, 0, 1, 0, 2);
        why(b, 0, 3, 5, 2);
        b.call(2, 0, 1, 0, 5);
        why(b, 0, 3, 5, 2);
        b.call(2, 0, 1, 0, 5);
        why(b, 0, 2, 5, -1);
        b.retell(3, 5);
        b.retell(4, 2);
        b.retell(5, 0);
        why(b, 0, -1, -1, -1);
        b.retell(1, 1);
        why(b, 0, 5, 5, -1);
        b.retell(4, 99);
        why(b, 0, 1, 99, -1);
        b.retell(4, 2);
        b.retell(1, 0);
        // a TAKE while two values were always within, by turns
        Callorder c = with(QUEUE);
        c.call(0, 0, 0, 1, 0);
        c.begin(1, 0, 1, 0);
        c.call(0, 0, 0, 2, 0);
        c.call(2, 0, 1, 0, 1);
        c.end(1, 0);
        why(c, 0, 4, 1, -1);
        c.call(2, 0, 1, 0, 0);
        why(c, 0, 4, 1, -1);
        c.retell(1, 2);
        c.retell(3, 1);
        why(c, 0, -1, -1, -1);
        c.call(0, 0, 0, 2, 0);
        is(34, c.fast(0), -1);
        // overlapping the second PUT, it may have been empty between
        Callorder d = with(QUEUE);
        d.call(0, 0, 0, 1, 0);
        d.begin(1, 0, 1, 0);
        d.call(2, 0, 1, 0, 1);
        d.call(0, 0, 0, 2, 0);
        d.end(1, 0);
        why(d, 0, -1, -1, -1);
        d.begin(2, 0, 1, 0);
        is(34, d.fast(0), -1);
        is(35, d.why(0, 1), -1);
    }

    private static void fastSet() {
        Callorder b = with(SET);
        why(b, 0, -1, -1, -1);
        b.call(0, 0, 0, 7, 1);
        b.call(1, 0, 2, 7, 0);
        why(b, 0, 1, 7, -1);
        b.call(1, 0, 1, 4, 1);
        why(b, 0, 1, 4, -1);
        b.retell(2, 0);
        b.begin(2, 0, 1, 7);
        why(b, 0, 1, 7, -1);
        b.wipe(false);
        b.call(0, 0, 0, 7, 1);
        b.begin(2, 0, 1, 7);
        b.call(1, 0, 2, 7, 0);
        why(b, 0, -1, -1, -1);
        b.call(0, 0, 0, 7, 1);
        b.call(0, 0, 0, 7, 1);
        why(b, 0, 1, 7, -1);
    }

    private static void fastOfAllValues() {
        for (int a = 1; a <= 9; a++) {
            Callorder b = with(REGISTER, QUEUE, SET);
            b.call(0, 0, 0, a, 0);
            b.call(1, 0, 1, 0, 0);
            why(b, 0, 3, 0, a);
            b.call(0, 1, 0, a, 0);
            b.call(1, 1, 1, 0, 0);
            why(b, 1, 4, 3, -1);
            b.call(0, 2, 0, a, 0);
            why(b, 2, 1, a, -1);
            for (int other = 1; other <= 9; other++) {
                if (other != a) {
                    Callorder c = with(REGISTER, QUEUE);
                    c.call(0, 0, 0, a, 0);
                    c.call(0, 0, 0, other, 0);
                    c.call(1, 0, 1, 0, a);
                    c.call(1, 0, 1, 0, other);
                    why(c, 0, 3, Math.min(a, other), Math.max(a, other));
                    c.call(0, 1, 0, a, 0);
                    c.call(0, 1, 0, other, 0);
                    c.call(1, 1, 1, 0, other);
                    why(c, 1, 3, a, other);
                }
            }
        }
    }

    private static void promises() {
        Callorder b = with(REGISTER, REGISTER);
        is(37, b.promises(), 15);
        b.call(0, 0, 0, 1, 0);
        b.call(1, 0, 1, 0, 0);
        is(36, b.promise(0), false);
        is(36, b.promise(1), true);
        is(36, b.promise(2), true);
        is(36, b.promise(3), true);
        is(37, b.promises(), 14);
        fails(36, ARGUMENT, b, () -> b.promise(4));
        fails(36, ARGUMENT, b, () -> b.promise(-1));
        // each writes one and reads the other as 0: no order of all, but one for each view and each thing
        b.wipe(false);
        b.call(0, 0, 0, 1, 0);
        b.call(0, 1, 1, 0, 0);
        b.call(1, 1, 0, 1, 0);
        b.call(1, 0, 1, 0, 0);
        is(37, b.promises(), 12);
        // two threads see two writes in two orders: each view has an order, the thing has none
        Callorder c = with(REGISTER);
        c.call(0, 0, 0, 1, 0);
        c.call(1, 0, 0, 2, 0);
        c.call(0, 0, 1, 0, 2);
        c.call(1, 0, 1, 0, 1);
        is(37, c.promises(), 4);
        // one thread reads its own write as 0: nothing holds
        Callorder d = with(REGISTER, REGISTER);
        d.call(0, 0, 0, 1, 0);
        d.call(0, 0, 1, 0, 0);
        is(37, d.promises(), 0);
        // each thing has an order, but the view of T0 has none: it saw the write to 1, and not that to 0 ahead of it
        Callorder e = with(REGISTER, REGISTER);
        e.call(1, 0, 0, 1, 0);
        e.call(1, 1, 0, 1, 0);
        e.call(0, 1, 1, 0, 1);
        e.call(0, 0, 1, 0, 0);
        is(37, e.promises(), 8);
        is(36, e.promise(2), false);
        is(36, e.promise(3), true);
        // what others were answered does not matter for a view, but a write of theirs that hangs may be missing
        Callorder f = with(REGISTER);
        f.begin(1, 0, 0, 1);
        f.call(0, 0, 1, 0, 1);
        is(37, f.promises(), 15);
        f.call(0, 0, 1, 0, 0);
        is(37, f.promises(), 0);
        f.forget(1);
        is(37, f.promises(), 15);
    }

    private static void steps() {
        Callorder b = new Callorder();
        fails(38, INDEX, b, () -> b.step(3, 7, 0, 0));
        fails(38, INDEX, b, () -> b.step(-1, 0, 0, 0));
        fails(38, ARGUMENT, b, () -> b.step(0, 7, 0, 0));
        fails(38, ARGUMENT, b, () -> b.step(0, -1, 0, 0));
        fails(38, ARGUMENT, b, () -> b.step(0, 0, 3, 0));
        fails(38, ARGUMENT, b, () -> b.step(0, 0, -1, 0));
        fails(38, ARGUMENT, b, () -> b.step(0, 3, 1, 1));
        fails(38, ARGUMENT, b, () -> b.step(0, 4, 1, 0));
        int[] least = {0, 0, 0, 1, 0, 0, 0};
        int[] most = {9, 0, 0, 9, 0, 0, 99};
        for (int k = 0; k <= 6; k++) {
            int kind = k;
            fails(38, ARGUMENT, b, () -> b.step(0, kind, 0, least[kind] - 1));
            fails(38, ARGUMENT, b, () -> b.step(0, kind, 0, most[kind] + 1));
            is(38, b.step(0, kind, 0, least[kind]), 1);
            is(38, b.step(0, kind, 0, most[kind]), 2);
            is(39, b.unstep(0), 2);
        }
        is(39, b.unstep(0), 0);
        fails(39, INDEX, b, () -> b.unstep(3));
        fails(39, INDEX, b, () -> b.unstep(-1));
        b.step(1, 0, 2, 9);
        b.step(1, 6, 1, 99);
        is(38, b.step(1, 1, 0, 0), 3);
        fails(38, STATE, b, () -> b.step(1, 0, 0, 0));
        fails(38, ARGUMENT, b, () -> b.step(1, 0, 0, 10));
        is(40, b.steps(0), 0);
        is(40, b.steps(1), 3);
        fails(40, INDEX, b, () -> b.steps(3));
        fails(40, INDEX, b, () -> b.steps(-1));
        is(41, b.ofStep(1, 0, 0), 0);
        is(41, b.ofStep(1, 0, 1), 2);
        is(41, b.ofStep(1, 0, 2), 9);
        is(41, b.ofStep(1, 1, 2), 99);
        fails(41, INDEX, b, () -> b.ofStep(3, 0, 0));
        fails(41, INDEX, b, () -> b.ofStep(0, 0, 3));
        fails(41, INDEX, b, () -> b.ofStep(1, 3, 0));
        fails(41, INDEX, b, () -> b.ofStep(1, -1, 0));
        fails(41, ARGUMENT, b, () -> b.ofStep(1, 0, 3));
        fails(41, ARGUMENT, b, () -> b.ofStep(1, 0, -1));
        b.wipe(true);
        b.tape(1, 5);
        is(40, b.steps(1), 3);
    }

    private static void plainRuns() {
        Callorder b = new Callorder();
        is(42, b.outcomes(0), 1);
        is(43, b.outcome(0, 0), 0);
        is(45, b.stuck(0), 0);
        is(46, b.places(0), 1);
        is(47, b.runs(0), 1L);
        is(48, b.unlike(), 1L);
        is(49, b.fenced(), 1);
        // raise the hand, store it, and the same on another part: the last one stays
        b.step(0, 3, 0, 7);
        b.step(0, 3, 0, 6);
        b.step(0, 2, 1, 0);
        b.step(1, 3, 0, 5);
        b.step(1, 2, 1, 0);
        is(42, b.outcomes(0), 2);
        is(43, b.outcome(0, 0), 30350);
        is(43, b.outcome(0, 1), 50350);
        is(43, b.outcome(0, 2), -1);
        is(43, b.outcome(0, Integer.MAX_VALUE), -1);
        is(44, b.can(0, 30350), true);
        is(44, b.can(0, 40350), false);
        is(44, b.can(0, -1), false);
        is(44, b.can(0, Integer.MIN_VALUE), false);
        is(47, b.runs(0), 10L);
        is(48, b.unlike(), 2L);
        is(45, b.stuck(0), 0);
        // 4 x 3 ways to have come, and twice more when both stored
        is(46, b.places(0), 13);
        for (int model : new int[] {-1, 2}) {
            fails(42, ARGUMENT, b, () -> b.outcomes(model));
            fails(43, ARGUMENT, b, () -> b.outcome(model, 0));
            fails(44, ARGUMENT, b, () -> b.can(model, 0));
            fails(45, ARGUMENT, b, () -> b.stuck(model));
            fails(46, ARGUMENT, b, () -> b.places(model));
            fails(47, ARGUMENT, b, () -> b.runs(model));
        }
        fails(43, ARGUMENT, b, () -> b.outcome(0, -1));
        // a swap tells whether it went
        b.unstep(0);
        b.unstep(1);
        b.step(0, 6, 0, 5);
        b.step(1, 6, 0, 3);
        is(42, b.outcomes(0), 2);
        is(43, b.outcome(0, 0), 300010);
        is(43, b.outcome(0, 1), 500100);
        b.step(0, 6, 0, 54);
        is(43, b.outcome(0, 1), 400100);
        // a hand keeps no more than a digit
        Callorder c = new Callorder();
        c.step(2, 3, 0, 9);
        c.step(2, 3, 0, 9);
        c.step(2, 2, 2, 0);
        is(43, c.outcome(0, 0), 8008);
    }

    private static void bufferedRuns() {
        Callorder b = new Callorder();
        b.step(0, 0, 0, 1);
        is(47, b.runs(1), 1L);
        is(46, b.places(1), 3);
        b.step(0, 1, 0, 0);
        // a part sees its own buffer: one run loads ahead of the flush, the other behind it, to the same end
        is(47, b.runs(1), 2L);
        is(42, b.outcomes(1), 1);
        is(43, b.outcome(1, 0), 100100);
        b.step(0, 0, 0, 2);
        is(43, b.outcome(1, 0), 200100);
        b.unstep(0);
        // two to one cell: the later one is seen, the first one goes first
        b.step(0, 0, 0, 1);
        b.step(0, 0, 0, 2);
        b.step(0, 1, 0, 0);
        b.step(1, 1, 0, 0);
        is(42, b.outcomes(1), 3);
        is(43, b.outcome(1, 0), 200200);
        is(43, b.outcome(1, 1), 200210);
        is(43, b.outcome(1, 2), 200220);
        is(42, b.outcomes(0), 3);
        b.unstep(0);
        b.unstep(1);
        // each stores, then loads the other: both may see 0 only with buffers, and not behind a fence
        b.step(0, 0, 0, 1);
        b.step(0, 1, 1, 0);
        b.step(1, 0, 1, 1);
        b.step(1, 1, 0, 0);
        is(42, b.outcomes(0), 3);
        is(42, b.outcomes(1), 4);
        is(44, b.can(0, 110000), false);
        is(44, b.can(1, 110000), true);
        is(47, b.runs(0), 6L);
        is(47, b.runs(1), 80L);
        is(46, b.places(1), 34);
        is(49, b.fenced(), 3);
        b.unstep(0);
        b.unstep(1);
        for (int part = 0; part < 2; part++) {
            b.step(part, 0, part, 1);
            b.step(part, 4, 0, 0);
            b.step(part, 1, 1 - part, 0);
        }
        is(44, b.can(1, 110000), false);
        is(42, b.outcomes(1), 3);
        // two runs only: the fence waits for the flush
        b.unstep(0);
        is(47, b.runs(1), 1L);
        b.unstep(1);
        // SWAP and TAKE wait for the buffer, too; STORE puts what the hand held then
        b.step(0, 3, 0, 4);
        b.step(0, 2, 2, 0);
        b.step(0, 3, 0, 5);
        is(43, b.outcome(1, 0), 4900);
        is(47, b.runs(1), 2L);
        b.unstep(0);
        b.step(0, 0, 0, 3);
        b.step(0, 6, 0, 38);
        is(47, b.runs(1), 1L);
        is(43, b.outcome(1, 0), 800100);
        b.unstep(0);
        b.step(0, 0, 1, 3);
        b.step(0, 5, 0, 0);
        is(47, b.runs(1), 1L);
        is(43, b.outcome(1, 0), 130000);
        // three values wait for one part: 5 flushes and steps in 5 rows
        b.unstep(0);
        b.step(0, 0, 0, 1);
        b.step(0, 0, 1, 2);
        b.step(0, 0, 2, 3);
        is(47, b.runs(1), 5L);
        is(46, b.places(1), 10);
        is(43, b.outcome(1, 0), 123000);
        is(49, b.fenced(), 1);
    }

    private static void stuckRuns() {
        Callorder b = new Callorder();
        b.step(0, 5, 0, 0);
        b.step(1, 5, 0, 0);
        // one takes, the other never can
        is(45, b.stuck(0), 2);
        is(45, b.stuck(1), 2);
        is(42, b.outcomes(0), 0);
        is(43, b.outcome(0, 0), -1);
        is(44, b.can(0, 0), false);
        is(47, b.runs(0), 2L);
        is(48, b.unlike(), 2L);
        is(46, b.places(0), 3);
        is(49, b.fenced(), 0);
        b.step(0, 0, 0, 0);
        b.step(1, 0, 0, 0);
        is(45, b.stuck(0), 0);
        is(42, b.outcomes(0), 1);
        is(47, b.runs(0), 2L);
        is(9, b.tape(0, 3), 4);
        b.unstep(0);
        b.step(0, 0, 0, 7);
        b.unstep(1);
        b.step(1, 5, 0, 0);
        b.step(1, 5, 0, 0);
        is(45, b.stuck(0), 3 - 1);
        is(45, b.stuck(1), 2);
        is(9, b.tape(0, 1) < 3, true);
    }

    private static void unlikeRuns() {
        Callorder b = new Callorder();
        // loads of one cell are free of each other, and so is all that uses no cell
        for (int part = 0; part < 3; part++) {
            b.step(part, 1, 0, 0);
            b.step(part, 3, 0, 1);
            b.step(part, 4, 0, 0);
        }
        is(47, b.runs(0), 1680L);
        is(48, b.unlike(), 1L);
        for (int part = 0; part < 3; part++) {
            b.unstep(part);
            b.step(part, 0, part, 1);
            b.step(part, 0, part, 2);
        }
        is(47, b.runs(0), 90L);
        is(48, b.unlike(), 1L);
        // three swaps of one cell: each order counts
        for (int part = 0; part < 3; part++) {
            b.unstep(part);
            b.step(part, 6, 1, 0);
        }
        is(48, b.unlike(), 6L);
        b.unstep(2);
        b.step(2, 1, 1, 0);
        is(48, b.unlike(), 6L);
        b.unstep(1);
        b.step(1, 1, 1, 0);
        // a write and two loads: each load is ahead of it or behind
        is(48, b.unlike(), 4L);
    }

    private static void allOfIt() {
        Callorder b = with(REGISTER, SET);
        is(51, b.knock(), 1);
        is(51, b.knock(), 2);
        is(21, b.bench(5), 2);
        b.wipe(true);
        is(51, b.knock(), 3);
        is(52, b.isSound(), true);
        long one = b.digest();
        is(53, b.digest(), one);
        b.knock();
        is(53, b.digest() != one, true);
        for (int seed = 0; seed < 60; seed++) {
            b.trial(seed % 7, 1 + seed % 3, seed);
            is(52, b.isSound(), true);
        }
        b.unstep(0);
        b.step(0, 5, 1, 0);
        b.step(0, 5, 1, 0);
        b.step(1, 0, 1, 4);
        is(52, b.isSound(), true);
        // what is asked for changes nothing
        long before = b.digest();
        b.found(1, 1, 8);
        b.wouldFit(0, 5);
        b.core(-1);
        b.spread();
        b.joined();
        is(53, b.digest(), before);
    }
}
