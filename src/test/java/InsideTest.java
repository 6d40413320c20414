import java.lang.reflect.Field;
import java.lang.reflect.Method;
import java.util.function.Consumer;
import java.util.function.Supplier;

/**
 * What the document says and no call was seen to reach, looked at from inside: a COUNTER at 100, the 200 times of a
 * TRIAL, and isSound() when one of the things that it asks is not so. For that, what the class worked out and
 * keeps is spoilt, one thing at a time.
 */
public final class InsideTest {
    private static final int ALL = 4;
    private static final int PLAIN = 0;
    private static final int BUFFERED = 1;
    private static final int FENCED = 2;
    private static int wrong = 0;

    public static void main(String[] args) throws Exception {
        countersGoRound();
        trialsAreGivenUp();
        soundThings();
        soundJoined();
        soundFastWays();
        soundPromises();
        soundCore();
        soundRuns();
        digestTellsIt();
        System.out.println("InsideTest: " + wrong + " wrong");
        if (wrong > 0) {
            System.exit(1);
        }
    }

    private static void is(String what, Object got, Object due) {
        if (!due.equals(got)) {
            wrong++;
            System.out.println(what + ": " + got + ", due is " + due);
        }
    }

    // ---- what stands inside

    private static Field field(Object owner, String name) {
        try {
            Field field = owner.getClass().getDeclaredField(name);
            field.setAccessible(true);
            return field;
        } catch (ReflectiveOperationException e) {
            throw new IllegalStateException(e);
        }
    }

    private static Object inside(Callorder bench, String... names) {
        try {
            Object at = bench;
            for (String name : names) {
                at = field(at, name).get(at);
            }
            return at;
        } catch (ReflectiveOperationException e) {
            throw new IllegalStateException(e);
        }
    }

    private static int[] row(Callorder bench, String... names) {
        return (int[]) inside(bench, names);
    }

    private static long[] longRow(Callorder bench, String... names) {
        return (long[]) inside(bench, names);
    }

    private static void set(Callorder bench, String part, String name, long value) {
        try {
            Object owner = inside(bench, part);
            Field field = field(owner, name);
            if (field.getType() == int.class) {
                field.setInt(owner, (int) value);
            } else {
                field.setLong(owner, value);
            }
        } catch (ReflectiveOperationException e) {
            throw new IllegalStateException(e);
        }
    }

    // ---- "it becomes (it + VALUE) % 100; ANSWERS that"

    private static long act(int kind, int op, int value, long state) throws ReflectiveOperationException {
        Method act = Class.forName("Callorder$Kinds").getDeclaredMethod("act", int.class, int.class, int.class, int.class, long.class);
        act.setAccessible(true);
        return (long) act.invoke(null, kind, op, value, 0, state);
    }

    private static void countersGoRound() throws ReflectiveOperationException {
        for (int state = 0; state < 100; state++) {
            for (int value = 1; value <= 9; value++) {
                long due = (state + value) % 100;
                is("a COUNTER at " + state + " and " + value, act(4, 0, value, state), due << 7 | due);
            }
            is("a COUNTER at " + state, act(4, 1, 0, state), (long) state << 7 | state);
        }
    }

    // ---- "till 9 CALLS ended, but at most 200 times"

    private static void trialsAreGivenUp() throws ReflectiveOperationException {
        Field most = Class.forName("Callorder$Maker").getDeclaredField("MAX_TRIES");
        most.setAccessible(true);
        is("the times of a TRIAL", most.get(null), 200);
    }

    // ---- isSound()

    /** Tells whether a bench is sound behind all that it asks for was worked out, and then one thing was spoilt. */
    private static boolean soundBehind(Supplier<Callorder> made, Consumer<Callorder> spoil) {
        Callorder bench = made.get();
        is("as it was", bench.isSound(), true);
        bench.digest();
        spoil.accept(bench);
        return bench.isSound();
    }

    private static void sound(String what, Supplier<Callorder> made, Consumer<Callorder> spoil) {
        is(what, soundBehind(made, spoil), true);
    }

    private static void unsound(String what, Supplier<Callorder> made, Consumer<Callorder> spoil) {
        is(what, soundBehind(made, spoil), false);
    }

    /** A PUT that a TAKE overlaps, on a STACK. */
    private static Callorder stack() {
        Callorder bench = new Callorder();
        bench.thing(2);
        bench.begin(0, 0, 0, 5);
        bench.begin(1, 0, 1, 0);
        bench.end(0, 0);
        bench.end(1, 5);
        return bench;
    }

    private static void soundThings() {
        unsound("all fit, but a THING does not", InsideTest::stack, b -> row(b, "verdicts", "lengths")[0] = -1);
        unsound("each THING fits, but all do not", InsideTest::stack, b -> row(b, "verdicts", "lengths")[ALL] = -1);
    }

    private static void turn(int[] row, int place) {
        int kept = row[place];
        row[place] = row[place + 1];
        row[place + 1] = kept;
    }

    private static void soundJoined() {
        unsound("JOINED is not VALID", InsideTest::stack, b -> turn(row(b, "verdicts", "rows"), 0));
        Supplier<Callorder> apart = () -> {
            Callorder bench = new Callorder();
            bench.thing(3);
            bench.call(0, 0, 2, 1, 0);
            bench.call(1, 0, 2, 2, 0);
            return bench;
        };
        unsound("JOINED does not KEEP TIMES", apart, b -> turn(row(b, "verdicts", "rows"), 0));
        unsound("JOINED is too short", InsideTest::stack, b -> row(b, "verdicts", "lengths")[0] = 1);
        sound("the FIRST ORDER of all is not asked", InsideTest::stack, b -> turn(row(b, "verdicts", "rows"), ALL * 9));
    }

    private static Callorder told(int kind, int answer) {
        Callorder bench = new Callorder();
        bench.thing(kind);
        bench.call(0, 0, 0, 1, kind == 3 ? 1 : 0);
        bench.call(1, 0, kind == 3 ? 2 : 1, kind == 3 ? 1 : 0, answer);
        return bench;
    }

    private static void soundFastWays() {
        for (int kind : new int[] {0, 1, 3}) {
            unsound("FAST tells of a fault that is not there, KIND " + kind, () -> told(kind, 1), b -> set(b, "fastWays", "reason", 1));
            unsound("FAST tells of no fault, KIND " + kind, () -> told(kind, 7), b -> set(b, "fastWays", "reason", 0));
        }
    }

    private static void soundPromises() {
        for (int set = 0; set < 16; set++) {
            boolean isTimes = (set & 1) != 0;
            boolean isThreads = (set & 2) != 0;
            boolean isViews = (set & 4) != 0;
            boolean isEach = (set & 8) != 0;
            boolean due = (!isTimes || isThreads) && (!isThreads || isViews && isEach);
            int kept = set;
            is("promises " + set, soundBehind(InsideTest::stack, b -> set(b, "verdicts", "promises", kept)), due);
        }
    }

    /** Two PUTS that overlap, then two TAKES that were ANSWERED the same, on a STACK: each may be, but not both. */
    private static Callorder faulty() {
        Callorder bench = new Callorder();
        bench.thing(2);
        bench.begin(0, 0, 0, 1);
        bench.begin(1, 0, 0, 2);
        bench.end(0, 0);
        bench.end(1, 0);
        bench.call(2, 0, 1, 0, 1);
        bench.call(2, 0, 1, 0, 1);
        return bench;
    }

    private static void soundCore() {
        int core = 4 + 8;
        is("the CORE", faulty().core(-1), core);
        for (int set = 0; set < 16; set++) {
            int kept = set;
            is("the CORE " + set, soundBehind(InsideTest::faulty, b -> row(b, "verdicts", "cores")[ALL] = kept), set == core);
        }
    }

    /** Two parts that write and look at what the other one wrote. */
    private static Callorder program() {
        Callorder bench = new Callorder();
        bench.step(0, 0, 0, 1);
        bench.step(0, 1, 1, 0);
        bench.step(1, 0, 1, 1);
        bench.step(1, 1, 0, 0);
        return bench;
    }

    private static void soundRuns() {
        Supplier<Callorder> made = InsideTest::program;
        unsound("an OUTCOME of MODEL 0 is not one of 1", made, b -> row(b, "explored", "ends")[0] = 123456);
        unsound("the last OUTCOME of MODEL 0 is not one of 1", made, b -> row(b, "explored", "ends")[2] = 123456);
        unsound("fewer OUTCOMES with FENCES", made, b -> row(b, "explored", "endCounts")[FENCED]--);
        unsound("more OUTCOMES with FENCES", made, b -> row(b, "explored", "endCounts")[FENCED]++);
        long plain = program().runs(PLAIN);
        unsound("more RUNS of MODEL 0", made, b -> longRow(b, "explored", "runCounts")[BUFFERED] = plain - 1);
        sound("as many RUNS of MODEL 0", made, b -> longRow(b, "explored", "runCounts")[BUFFERED] = plain);
        unsound("fewer RUNS than unlike ones", made, b -> set(b, "explored", "unlikeCount", plain + 1));
        sound("as many RUNS as unlike ones", made, b -> set(b, "explored", "unlikeCount", plain));
    }

    // ---- "1 if isSound(), otherwise 0"

    private static void digestTellsIt() {
        Callorder bench = stack();
        long before = bench.digest();
        // a FIRST ORDER turned round has as many signs as before, so nothing but the last number becomes another one
        turn(row(bench, "verdicts", "rows"), 0);
        is("the digest of a bench that is not sound", bench.digest(), before - 1);
    }
}
