import java.util.function.Function;
import java.util.function.Supplier;

/** The boundaries of == 2 and of the promises 3 to 8, 20 to 22, 25 and 26: CALLS, their MOMENTS, and what is told of them. */
final class BoundaryCalls extends Boundary {
    private static final String NINE = "0:READ=0 1:READ=0 2:READ=0 0:READ=0 1:READ=0 2:READ=0 0:READ=0 1:READ=0 2:READ=0";
    private static final String EIGHT = "0:READ=0 1:READ=0 2:READ=0 0:READ=0 1:READ=0 2:READ=0 0:READ=0 1:READ=0";

    private BoundaryCalls() {
    }

    static void all() {
        threads();
        beginsAndEnds();
        hangsOrNot();
        atMostNineCalls();
        moments();
        ahead();
        begin();
        end();
        call();
        retell();
        forget();
        wipe();
        ofCall();
        bench();
        text();
        drawn();
    }

    private static void threads() {
        says("THREADS are 0 to 2.");
        Supplier<Callorder> made = () -> play(things(REGISTER, REGISTER), "0:READ=0 1[READ");
        for (int thread = 0; thread <= 2; thread++) {
            Callorder b = with(REGISTER);
            is(b.begin(thread, 0, 0, 5), 0);
            is(b.end(thread, 0), 0);
            is(b.call(thread, 0, 1, 0, 5), 1);
            is(b.ofCall(0, 0), thread);
            is(b.ofCall(1, 0), thread);
            is(b.drawn(thread), "[][]");
            is(b.drawn((thread + 1) % 3), "....");
        }
        for (int thread : new int[] {-1, 3, Integer.MIN_VALUE, Integer.MAX_VALUE}) {
            refuses(INDEX, made, x -> x.begin(thread, 0, 1, 0));
            refuses(INDEX, made, x -> x.end(thread, 0));
            refuses(INDEX, made, x -> x.call(thread, 0, 1, 0, 0));
            refuses(INDEX, made, x -> x.drawn(thread));
        }
    }

    private static void beginsAndEnds() {
        says("A CALL is of a THREAD, on a THING, by an OP with a VALUE; it has a BEGIN, and an END with the ANSWER (0 to 99) that was told,"
                + " or it HANGS (it has neither END nor ANSWER).", "NONE is -1.");
        Callorder b = play(things(SET, CELL), "2[1.SWAP99 0:REMOVE9=99 1[1.WRITE0 2]0");
        int[][] due = {{2, 1, 2, 99, 0, 4, 0}, {0, 0, 1, 9, 1, 2, 99}, {1, 1, 0, 0, 3, NONE, NONE}};
        for (int call = 0; call < 3; call++) {
            for (int what = 0; what <= 6; what++) {
                is(b.ofCall(call, what), due[call][what]);
            }
        }
        // an ANSWER of 0 to 99, whatever the OP can be answered
        for (int answer = 0; answer <= 99; answer++) {
            Callorder c = play(LOCK, "0[TAKE");
            is(c.end(0, answer), 0);
            is(c.call(0, 0, 0, 0, answer), 1);
            is(c.ofCall(0, 6), answer);
            is(c.ofCall(1, 6), answer);
            is(c.retell(0, 99 - answer), answer);
            is(c.ofCall(0, 6), 99 - answer);
        }
        for (int answer : new int[] {-1, 100, Integer.MIN_VALUE, Integer.MAX_VALUE}) {
            Supplier<Callorder> made = () -> play(LOCK, "0[TAKE 1:TAKE=0");
            refuses(ARGUMENT, made, x -> x.end(0, answer));
            refuses(ARGUMENT, made, x -> x.call(1, 0, 0, 0, answer));
            refuses(ARGUMENT, made, x -> x.retell(1, answer));
            refuses(ARGUMENT, made, x -> x.wouldFit(1, answer));
        }
    }

    private static void hangsOrNot() {
        says("Of each THREAD at most the last CALL HANGS, and it begins no other one till that one ended.");
        for (int t = 0; t <= 2; t++) {
            int thread = t;
            Supplier<Callorder> one = () -> play(things(REGISTER, SET), thread + "[READ");
            refuses(STATE, one, x -> x.begin(thread, 0, 1, 0));
            refuses(STATE, one, x -> x.begin(thread, 1, 0, 1));
            refuses(STATE, one, x -> x.call(thread, 0, 1, 0, 0));
            Callorder b = one.get();
            // the others may, and it may again when its own ended
            is(b.begin((thread + 1) % 3, 0, 1, 0), 1);
            is(b.begin((thread + 2) % 3, 0, 1, 0), 2);
            is(b.bench(2), 3);
            is(b.end(thread, 0), 0);
            is(b.bench(2), 2);
            is(b.begin(thread, 0, 1, 0), 3);
            is(b.bench(2), 3);
        }
        // all three HANG: none begins one
        for (int thread = 0; thread <= 2; thread++) {
            int t = thread;
            refuses(STATE, () -> play(REGISTER, "0[READ 1[READ 2[READ"), x -> x.begin(t, 0, 1, 0));
            refuses(STATE, () -> play(REGISTER, "0[READ 1[READ 2[READ"), x -> x.call(t, 0, 1, 0, 0));
            refuses(STATE, () -> play(REGISTER, "0[READ 1[READ 2[READ"), x -> x.read(t));
            refuses(STATE, () -> play(REGISTER, "0[READ 1[READ 2[READ"), x -> x.write(t, 1));
        }
    }

    private static void atMostNineCalls() {
        says("There are at most 9 CALLS, numbered from 0 in the order in which they began.");
        Callorder b = with(REGISTER);
        for (int number = 0; number < 9; number++) {
            is(b.bench(1), number);
            is(number % 2 == 0 ? b.call(number % 3, 0, 1, 0, 0) : b.begin(number % 3, 0, 1, 0), number);
            if (number % 2 != 0) {
                is(b.end(number % 3, 0), number);
            }
        }
        is(b.bench(1), 9);
        for (int thread = 0; thread <= 2; thread++) {
            int t = thread;
            refuses(STATE, () -> play(REGISTER, NINE), x -> x.begin(t, 0, 1, 0));
            refuses(STATE, () -> play(REGISTER, NINE), x -> x.call(t, 0, 1, 0, 0));
            refuses(STATE, () -> play(REGISTER, NINE), x -> x.read(t));
            refuses(STATE, () -> play(REGISTER, NINE), x -> x.write(t, 1));
            is(play(REGISTER, EIGHT).begin(t, 0, 1, 0), 8);
            is(play(REGISTER, EIGHT).call(t, 0, 1, 0, 0), 8);
            is(play(REGISTER, EIGHT).read(t), 0);
            is(play(REGISTER, EIGHT).write(t, 1), 1);
            // the ninth may still end, and with one forgotten there is room for one again
            Callorder c = play(REGISTER, EIGHT);
            c.begin(t, 0, 1, 0);
            is(c.end(t, 0), 8);
            is(c.forget(4), 8);
            is(c.begin(t, 0, 1, 0), 8);
        }
        // numbers go by the BEGINS, not by the ENDS
        Callorder d = play(REGISTER, "2[READ 0[READ 1[READ 1]1 0]2 2]3");
        for (int call = 0; call < 3; call++) {
            is(d.ofCall(call, 0), new int[] {2, 0, 1}[call]);
            is(d.ofCall(call, 6), new int[] {3, 2, 1}[call]);
        }
    }

    private static void moments() {
        says("MOMENTS: each BEGIN and each END is the next MOMENT, from 0 on; no two are the same.");
        Callorder b = with(REGISTER);
        is(b.bench(3), 0);
        b.begin(1, 0, 1, 0);
        is(b.bench(3), 1);
        b.call(0, 0, 1, 0, 0);
        is(b.bench(3), 3);
        b.end(1, 0);
        is(b.bench(3), 4);
        b.read(2);
        is(b.bench(3), 6);
        b.write(2, 7);
        is(b.bench(3), 8);
        int[][] due = {{0, 3}, {1, 2}, {4, 5}, {6, 7}};
        for (int call = 0; call < 4; call++) {
            is(b.ofCall(call, 4), due[call][0]);
            is(b.ofCall(call, 5), due[call][1]);
        }
        // what only asks, and what does not begin or end a CALL, is no MOMENT
        b.retell(0, 5);
        b.fits(-1);
        b.knock();
        b.step(0, 4, 0, 0);
        b.deliver(0);
        b.thing(2);
        b.forget(0);
        is(b.bench(3), 8);
    }

    private static void ahead() {
        says("A CALL is AHEAD of another one, if its END is a smaller MOMENT than the BEGIN of that other one.");
        says(22, "- `one`: a CALL", "- `other`: a CALL (it may be the same)", "Returns whether the one is AHEAD of the other.",
                "Throws `IndexOutOfBoundsException` if there is no such CALL as one or other");
        // the END of 0 is the MOMENT ahead of the BEGIN of 1
        Callorder b = play(REGISTER, "0:READ=0 1:READ=0");
        is(b.isAhead(0, 1), true);
        is(b.isAhead(1, 0), false);
        // the BEGIN of 1 is the MOMENT ahead of the END of 0
        Callorder c = play(REGISTER, "0[READ 1[READ 0]0 1]0");
        is(c.isAhead(0, 1), false);
        is(c.isAhead(1, 0), false);
        // one within the other
        Callorder d = play(REGISTER, "0[READ 1:READ=0 0]0 2[READ");
        is(d.isAhead(0, 1), false);
        is(d.isAhead(1, 0), false);
        is(d.isAhead(0, 2), true);
        is(d.isAhead(1, 2), true);
        // one that HANGS is ahead of none, as far as it may be away
        Callorder e = play(REGISTER, "0[READ 1:READ=0 1:READ=0 2[READ");
        for (int other = 0; other < 4; other++) {
            is(e.isAhead(0, other), false);
            is(e.isAhead(3, other), false);
            is(e.isAhead(other, other), false);
        }
        is(e.isAhead(1, 3), true);
        for (int far : new int[] {-1, 4, Integer.MIN_VALUE, Integer.MAX_VALUE}) {
            refuses(INDEX, () -> play(REGISTER, "0[READ 1:READ=0 1:READ=0 2[READ"), x -> x.isAhead(far, 0));
            refuses(INDEX, () -> play(REGISTER, "0[READ 1:READ=0 1:READ=0 2[READ"), x -> x.isAhead(0, far));
            refuses(INDEX, () -> play(REGISTER, "0[READ 1:READ=0 1:READ=0 2[READ"), x -> x.isAhead(far, far));
        }
        refuses(INDEX, () -> with(REGISTER), x -> x.isAhead(0, 0));
    }

    /** What begin() and call() refuse alike. */
    private static void refusesToBegin(int promise, Function<int[], Function<Callorder, Object>> by) {
        Supplier<Callorder> made = () -> play(things(REGISTER, SET), "0:READ=0 1[READ");
        for (int thread : new int[] {-1, 3, Integer.MIN_VALUE, Integer.MAX_VALUE}) {
            refuses(INDEX, made, by.apply(new int[] {thread, 0, 1, 0}));
            // named first, so told first
            refuses(INDEX, made, by.apply(new int[] {thread, 0, 9, 9}));
        }
        for (int thing : new int[] {-1, 2, 3, 4, Integer.MIN_VALUE, Integer.MAX_VALUE}) {
            refuses(INDEX, made, by.apply(new int[] {0, thing, 1, 0}));
            refuses(INDEX, made, by.apply(new int[] {1, thing, 9, 9}));
        }
        refuses(INDEX, Callorder::new, by.apply(new int[] {0, 0, 1, 0}));
        for (int op : new int[] {-1, 2, Integer.MIN_VALUE, Integer.MAX_VALUE}) {
            refuses(ARGUMENT, made, by.apply(new int[] {0, 0, op, 0}));
            refuses(ARGUMENT, made, by.apply(new int[] {1, 0, op, 0}));
        }
        refuses(ARGUMENT, made, by.apply(new int[] {0, 1, 3, 1}));
        for (int value : new int[] {0, 10, -1, Integer.MIN_VALUE, Integer.MAX_VALUE}) {
            refuses(ARGUMENT, made, by.apply(new int[] {0, 0, 0, value}));
            refuses(ARGUMENT, made, by.apply(new int[] {1, 0, 0, value}));
            refuses(ARGUMENT, made, by.apply(new int[] {1, 1, 2, value}));
            refuses(ARGUMENT, () -> play(REGISTER, NINE), by.apply(new int[] {1, 0, 0, value}));
        }
        refuses(ARGUMENT, made, by.apply(new int[] {0, 0, 1, 1}));
        refuses(STATE, made, by.apply(new int[] {1, 0, 1, 0}));
        refuses(STATE, () -> play(REGISTER, NINE), by.apply(new int[] {0, 0, 1, 0}));
        refuses(STATE, () -> play(REGISTER, EIGHT + " 1[READ"), by.apply(new int[] {1, 0, 1, 0}));
        refuses(STATE, () -> play(REGISTER, EIGHT + " 1[READ"), by.apply(new int[] {0, 0, 1, 0}));
    }

    private static void begin() {
        says(3, "A THREAD begins a CALL.", "- `thread`: a THREAD", "- `thing`: a THING", "- `op`: the OP",
                "- `value`: the VALUE (0, if the OP has no use for one)", "Returns its number.",
                "Throws `IndexOutOfBoundsException` if thread is not 0 to 2, or there is no such THING",
                "Throws `IllegalArgumentException` if the KIND has no such OP, or value is not what it may be for it",
                "Throws `IllegalStateException` if a CALL of the THREAD HANGS, or there are 9 CALLS");
        refusesToBegin(3, a -> x -> x.begin(a[0], a[1], a[2], a[3]));
        Callorder b = with(REGISTER, REGISTER, REGISTER, SET);
        is(b.begin(2, 3, 2, 9), 0);
        is(b.begin(0, 0, 0, 1), 1);
        is(b.ofCall(0, 1), 3);
        is(b.ofCall(0, 5), NONE);
        is(b.ofCall(0, 6), NONE);
        is(b.bench(2), 2);
    }

    private static void end() {
        says(4, "The CALL of a THREAD that HANGS ends.", "- `thread`: a THREAD", "- `answer`: the ANSWER", "Returns its number.",
                "Throws `IndexOutOfBoundsException` if thread is not 0 to 2",
                "Throws `IllegalArgumentException` if answer is not 0 to 99",
                "Throws `IllegalStateException` if no CALL of it HANGS");
        Callorder b = play(REGISTER, "0:READ=7 2[READ 1[READ 0[READ");
        is(b.end(0, 0), 3);
        is(b.end(2, 99), 1);
        is(b.end(1, 5), 2);
        int[] ends = {1, 6, 7, 5};
        int[] answers = {7, 99, 5, 0};
        for (int call = 0; call < 4; call++) {
            is(b.ofCall(call, 5), ends[call]);
            is(b.ofCall(call, 6), answers[call]);
        }
        Supplier<Callorder> made = () -> play(REGISTER, "0:READ=7 2[READ");
        for (int thread : new int[] {-1, 3, Integer.MIN_VALUE, Integer.MAX_VALUE}) {
            refuses(INDEX, made, x -> x.end(thread, 0));
            refuses(INDEX, made, x -> x.end(thread, 100));
        }
        for (int answer : new int[] {-1, 100, Integer.MIN_VALUE, Integer.MAX_VALUE}) {
            for (int thread = 0; thread <= 2; thread++) {
                int t = thread;
                refuses(ARGUMENT, made, x -> x.end(t, answer));
            }
        }
        refuses(STATE, made, x -> x.end(0, 0));
        refuses(STATE, made, x -> x.end(1, 99));
        refuses(STATE, Callorder::new, x -> x.end(0, 0));
        refuses(STATE, () -> play(REGISTER, "2[READ 2]0"), x -> x.end(2, 0));
        // one that was forgotten cannot end, nor one that went with all
        refuses(STATE, () -> play(REGISTER, "2[READ ~0"), x -> x.end(2, 0));
        refuses(STATE, () -> after(play(REGISTER, "2[READ"), x -> x.wipe(false)), x -> x.end(2, 0));
    }

    private static void call() {
        says(5, "A THREAD begins a CALL and ends it as the next MOMENT.", "- `thread`: a THREAD", "- `thing`: a THING", "- `op`: the OP",
                "- `value`: the VALUE (0, if the OP has no use for one)", "- `answer`: the ANSWER", "Returns its number.",
                "Throws `IndexOutOfBoundsException` if thread is not 0 to 2, or there is no such THING",
                "Throws `IllegalArgumentException` if the KIND has no such OP, value is not what it may be for it, or answer not 0 to 99",
                "Throws `IllegalStateException` if a CALL of the THREAD HANGS, or there are 9 CALLS");
        refusesToBegin(5, a -> x -> x.call(a[0], a[1], a[2], a[3], 0));
        refusesToBegin(5, a -> x -> x.call(a[0], a[1], a[2], a[3], 99));
        Supplier<Callorder> made = () -> play(things(REGISTER, SET), "0:READ=0 1[READ");
        for (int answer : new int[] {-1, 100, Integer.MIN_VALUE, Integer.MAX_VALUE}) {
            refuses(ARGUMENT, made, x -> x.call(0, 0, 1, 0, answer));
            refuses(ARGUMENT, made, x -> x.call(1, 0, 1, 0, answer));
            refuses(ARGUMENT, () -> play(REGISTER, NINE), x -> x.call(0, 0, 1, 0, answer));
            refuses(INDEX, made, x -> x.call(3, 0, 1, 0, answer));
            refuses(INDEX, made, x -> x.call(0, 2, 1, 0, answer));
        }
        Callorder b = play(REGISTER, "2[READ");
        is(b.call(1, 0, 0, 9, 0), 1);
        is(b.call(0, 0, 1, 0, 99), 2);
        is(b.ofCall(1, 4), 1);
        is(b.ofCall(1, 5), 2);
        is(b.ofCall(2, 4), 3);
        is(b.ofCall(2, 5), 4);
        is(b.bench(2), 1);
        is(b.bench(3), 5);
    }

    private static void retell() {
        says(6, "Tells another ANSWER of a CALL that ended.", "- `call`: a CALL", "- `answer`: the ANSWER from now on",
                "Returns the ANSWER before.", "Throws `IndexOutOfBoundsException` if there is no such CALL",
                "Throws `IllegalArgumentException` if answer is not 0 to 99", "Throws `IllegalStateException` if it HANGS");
        Callorder b = play(REGISTER, "0:WRITE4=0 1:READ=4 2:READ=99 0[READ");
        is(b.retell(2, 0), 99);
        is(b.retell(2, 99), 0);
        is(b.retell(2, 4), 99);
        is(b.retell(2, 4), 4);
        is(b.retell(0, 7), 0);
        int[] due = {7, 4, 4, NONE};
        for (int call = 0; call < 4; call++) {
            is(b.ofCall(call, 6), due[call]);
        }
        // nothing else of it changes, and what follows of the ANSWER does at once
        is(b.ofCall(2, 4), 4);
        is(b.ofCall(2, 5), 5);
        is(b.bench(3), 7);
        Callorder c = play(REGISTER, "0:WRITE4=0 1:READ=4");
        for (int answer = 0; answer <= 9; answer++) {
            c.retell(1, answer);
            boolean isRight = answer == 4;
            is(c.fits(0), isRight);
            is(c.fits(-1), isRight);
            is(c.first(0), isRight ? "0 1" : "none");
            is(c.orders(0), isRight ? 1L : 0L);
            is(c.core(0), isRight ? 0 : 2);
            is(c.fast(0), isRight ? 1 : 0);
            is(c.joined(), isRight ? "0 1" : "none");
            is(c.behind(0, 2), isRight ? "4" : "none");
            is(c.isCause(0, 1), isRight);
            is(c.clock(1), isRight ? "1,1,0" : "0,1,0");
            is(c.promise(0), isRight);
            // a READ of 0 can still stand ahead of the WRITE, if the times do not matter
            is(c.promises(), isRight ? 15 : answer == 0 ? 14 : 0);
        }
        Supplier<Callorder> made = () -> play(REGISTER, "0:WRITE4=0 1[READ");
        for (int call : new int[] {-1, 2, Integer.MIN_VALUE, Integer.MAX_VALUE}) {
            refuses(INDEX, made, x -> x.retell(call, 0));
            refuses(INDEX, made, x -> x.retell(call, 100));
        }
        refuses(INDEX, Callorder::new, x -> x.retell(0, 0));
        for (int answer : new int[] {-1, 100, Integer.MIN_VALUE, Integer.MAX_VALUE}) {
            refuses(ARGUMENT, made, x -> x.retell(0, answer));
            refuses(ARGUMENT, made, x -> x.retell(1, answer));
        }
        refuses(STATE, made, x -> x.retell(1, 0));
        refuses(STATE, made, x -> x.retell(1, 99));
    }

    private static void forget() {
        says("To FORGET a CALL: it is gone; greater numbers become smaller by 1; all MOMENTS stay as they are.",
                "(Its THREAD is free, if it hung.)");
        says(7, "FORGETS a CALL.", "- `call`: a CALL", "Returns how many CALLS there are then.",
                "Throws `IndexOutOfBoundsException` if there is no such CALL");
        String moves = "0[PUT5 1[TAKE 0]1 2[TAKE 1]2";
        // the first one
        Callorder first = play(QUEUE, moves);
        is(first.forget(0), 2);
        is(Scene.texts(first), "T1 QUEUE0.TAKE() = 2 / T2 QUEUE0.TAKE() = ?");
        is(first.drawn(0), ".....");
        is(first.drawn(1), ".[--]");
        is(first.drawn(2), "...[-");
        is(first.ofCall(0, 4), 1);
        is(first.ofCall(0, 5), 4);
        is(first.ofCall(1, 4), 3);
        // one between
        Callorder middle = play(QUEUE, moves);
        is(middle.forget(1), 2);
        is(Scene.texts(middle), "T0 QUEUE0.PUT(5) = 1 / T2 QUEUE0.TAKE() = ?");
        is(middle.drawn(1), ".....");
        // the last one, which hangs: its THREAD is free
        Callorder last = play(QUEUE, moves);
        is(last.bench(2), 1);
        is(last.forget(2), 2);
        is(last.bench(2), 0);
        is(last.drawn(2), ".....");
        is(last.begin(2, 0, 0, 9), 2);
        is(last.drawn(2), ".....[");
        is(last.ofCall(2, 4), 5);
        // one that hangs, but is not the last one of all
        Callorder hung = play(QUEUE, "1[TAKE 0:PUT3=0 0:PUT4=0");
        is(hung.forget(0), 2);
        is(Scene.texts(hung), "T0 QUEUE0.PUT(3) = 0 / T0 QUEUE0.PUT(4) = 0");
        is(hung.drawn(1), ".....");
        is(hung.call(1, 0, 1, 0, 3), 2);
        is(hung.drawn(1), ".....[]");
        // the THREAD of one that ended is as free or not as it was
        Callorder other = play(QUEUE, "1:TAKE=0 1[TAKE");
        is(other.forget(0), 1);
        is(other.bench(2), 1);
        is(other.end(1, 0), 0);
        // the only one
        Callorder only = play(QUEUE, "1:TAKE=0");
        is(only.forget(0), 0);
        is(only.bench(1), 0);
        is(only.bench(3), 2);
        is(only.drawn(1), "..");
        is(only.call(1, 0, 1, 0, 0), 0);
        is(only.ofCall(0, 4), 2);
        // a CALL takes all that is told of it along, its THING, too
        Callorder things = play(things(REGISTER, SET, CELL), "0:READ=9 1:1.REMOVE8=7 2[2.SWAP65 ~0");
        is(Scene.texts(things), "T1 SET1.REMOVE(8) = 7 / T2 CELL2.SWAP(65) = ?");
        int[][] due = {{1, 1, 1, 8, 2, 3, 7}, {2, 2, 2, 65, 4, NONE, NONE}};
        for (int call = 0; call <= 1; call++) {
            for (int what = 0; what <= 6; what++) {
                is(things.ofCall(call, what), due[call][what]);
            }
        }
        // all that follows of the CALLS is told anew
        Callorder again = play(QUEUE, "0:PUT1=0 1:TAKE=2 1:TAKE=1");
        is(again.fits(0), false);
        is(again.core(0), 4);
        again.forget(1);
        is(again.fits(0), true);
        is(again.first(0), "0 1");
        is(again.isCause(0, 1), true);
        is(again.fast(0), 1);
        is(again.promises(), 15);
        // as full as it can be: each one of nine
        for (int call = 0; call < 9; call++) {
            Callorder full = play(REGISTER, "0:READ=0 0:READ=1 0:READ=2 0:READ=3 0:READ=4 0:READ=5 0:READ=6 0:READ=7 0:READ=8");
            is(full.forget(call), 8);
            for (int left = 0; left < 8; left++) {
                is(full.ofCall(left, 6), left < call ? left : left + 1);
                is(full.ofCall(left, 4), 2 * full.ofCall(left, 6));
            }
            is(full.bench(3), 18);
        }
        for (int many = 0; many <= 3; many++) {
            int calls = many;
            Supplier<Callorder> made = () -> play(QUEUE, "0:PUT1=0 1:PUT2=0 2:PUT3=0".substring(0, Math.max(0, calls * 9 - 1)));
            is(made.get().bench(1), calls);
            refuses(INDEX, made, x -> x.forget(calls));
            refuses(INDEX, made, x -> x.forget(-1));
            refuses(INDEX, made, x -> x.forget(Integer.MIN_VALUE));
            refuses(INDEX, made, x -> x.forget(Integer.MAX_VALUE));
        }
    }

    private static void wipe() {
        says(8, "All CALLS go; MOMENTS begin with 0 again.", "- `isAll`: whether the THINGS go, too", "Returns how many CALLS these were.");
        for (int many = 0; many <= 9; many++) {
            for (boolean isAll : new boolean[] {false, true}) {
                Callorder b = with(REGISTER, QUEUE);
                for (int call = 0; call < many; call++) {
                    b.call(call % 3, 0, 1, 0, 0);
                }
                is(b.wipe(isAll), many);
                is(b.bench(0), isAll ? 0 : 2);
                is(b.bench(1), 0);
                is(b.bench(3), 0);
                is(b.drawn(0), "");
                is(b.first(-1), "");
                is(b.wipe(isAll), 0);
                b.thing(QUEUE);
                int thing = isAll ? 0 : 2;
                is(b.call(1, thing, 0, 5, 0), 0);
                is(b.ofCall(0, 4), 0);
                is(b.text(0), "T1 QUEUE" + thing + ".PUT(5) = 0");
            }
        }
        // those that hung went, too, and MOMENTS of what was forgotten
        Callorder c = play(REGISTER, "0[READ 1:READ=0 2[READ ~1");
        is(c.wipe(false), 2);
        is(c.bench(2), 0);
        is(c.bench(3), 0);
        is(c.begin(0, 0, 1, 0), 0);
        is(c.drawn(0), "[");
        // all else stays
        Callorder d = play(REGISTER, "");
        d.write(1, 6);
        d.knock();
        d.step(2, 3, 0, 4);
        d.wipe(true);
        is(d.ofCopy(1, 0), 6);
        is(d.bench(4), 2);
        is(d.bench(5), 1);
        is(d.steps(2), 1);
    }

    private static void ofCall() {
        says(20, "- `call`: a CALL",
                "- `what`: 0 THREAD, 1 THING, 2 OP, 3 VALUE, 4 BEGIN, 5 END, 6 ANSWER (END and ANSWER of one that HANGS: NONE)",
                "Returns that.", "Throws `IndexOutOfBoundsException` if there is no such CALL",
                "Throws `IllegalArgumentException` if what is not 0 to 6");
        Supplier<Callorder> made = () -> play(things(REGISTER, SET), "0:READ=7 2[1.HAS8");
        int[][] due = {{0, 0, 1, 0, 0, 1, 7}, {2, 1, 2, 8, 2, NONE, NONE}};
        for (int call = 0; call <= 1; call++) {
            for (int what = 0; what <= 6; what++) {
                is(made.get().ofCall(call, what), due[call][what]);
            }
            for (int what : new int[] {-1, 7, Integer.MIN_VALUE, Integer.MAX_VALUE}) {
                int c = call;
                refuses(ARGUMENT, made, x -> x.ofCall(c, what));
            }
        }
        for (int call : new int[] {-1, 2, 9, Integer.MIN_VALUE, Integer.MAX_VALUE}) {
            refuses(INDEX, made, x -> x.ofCall(call, 0));
            refuses(INDEX, made, x -> x.ofCall(call, 7));
            refuses(INDEX, made, x -> x.ofCall(call, -1));
        }
    }

    private static void bench() {
        says(21, "- `what`: 0 how many THINGS, 1 how many CALLS, 2 how many of these HANG, 3 how many MOMENTS there were,"
                + " 4 how many MESSAGES, 5 how many KNOCKS", "Returns that.", "Throws `IllegalArgumentException` if what is not 0 to 5");
        Supplier<Callorder> made = () -> after(play(things(REGISTER, SET, SET, SET), "0[READ 1:READ=0 ~1 2[READ"), x -> {
            x.write(1, 4);
            x.write(1, 4);
            x.read(1);
            x.repeat(0);
            x.knock();
        });
        int[] due = {4, 5, 2, 10, 5, 1};
        for (int what = 0; what <= 5; what++) {
            is(made.get().bench(what), due[what]);
        }
        for (int what : new int[] {-1, 6, Integer.MIN_VALUE, Integer.MAX_VALUE}) {
            refuses(ARGUMENT, made, x -> x.bench(what));
        }
    }

    private static void text() {
        says(25, "- `call`: a CALL", "Returns \"T\" and the THREAD, a blank, the KIND in capitals and the THING, \".\", the OP in capitals,"
                + " its VALUE in brackets (\"()\" if the OP has no use for one), \" = \" and the ANSWER (\"?\" if it HANGS):"
                + " \"T0 QUEUE1.PUT(5) = 0\", \"T2 LOCK0.TAKE() = ?\".",
                "Throws `IndexOutOfBoundsException` if there is no such CALL");
        is(play(things(SET, QUEUE), "0:1.PUT5=0").text(0), "T0 QUEUE1.PUT(5) = 0");
        is(play(LOCK, "2[TAKE").text(0), "T2 LOCK0.TAKE() = ?");
        String[][] names = {{"REGISTER", "WRITE(9)", "READ()"}, {"QUEUE", "PUT(9)", "TAKE()"}, {"STACK", "PUT(9)", "TAKE()"},
            {"SET", "ADD(9)", "REMOVE(9)", "HAS(9)"}, {"COUNTER", "ADD(9)", "READ()"}, {"LOCK", "TAKE()", "FREE()"},
            {"CELL", "WRITE(9)", "READ()", "SWAP(9)"}};
        for (int kind = 0; kind <= 6; kind++) {
            for (int op = 0; op + 1 < names[kind].length; op++) {
                Callorder b = with(LOCK, LOCK, LOCK, kind);
                String name = names[kind][op + 1];
                int value = name.endsWith("(9)") ? 9 : 0;
                b.begin(1, 3, op, value);
                is(b.text(0), "T1 " + names[kind][0] + "3." + name + " = ?");
                b.end(1, 99);
                is(b.text(0), "T1 " + names[kind][0] + "3." + name + " = 99");
                b.retell(0, 0);
                is(b.text(0), "T1 " + names[kind][0] + "3." + name + " = 0");
            }
        }
        // a VALUE of 0, if the OP has a use for one, stands in the brackets
        is(play(CELL, "0:WRITE0=0").text(0), "T0 CELL0.WRITE(0) = 0");
        is(play(CELL, "0:SWAP0=10").text(0), "T0 CELL0.SWAP(0) = 10");
        is(play(CELL, "0:SWAP99=9").text(0), "T0 CELL0.SWAP(99) = 9");
        for (int call : new int[] {-1, 1, Integer.MIN_VALUE, Integer.MAX_VALUE}) {
            refuses(INDEX, () -> play(LOCK, "2[TAKE"), x -> x.text(call));
        }
        refuses(INDEX, Callorder::new, x -> x.text(0));
    }

    private static void drawn() {
        says(26, "- `thread`: a THREAD", "Returns a sign for each MOMENT from 0 on: \"[\" a BEGIN of a CALL of it, \"]\" an END of one,"
                + " \"-\" any other between BEGIN and END of one, or behind the BEGIN of one that HANGS, \".\" any other.",
                "Throws `IndexOutOfBoundsException` if thread is not 0 to 2");
        for (int thread = 0; thread <= 2; thread++) {
            is(new Callorder().drawn(thread), "");
        }
        Callorder b = play(REGISTER, "0[READ 1[READ 0]0 2:READ=0 0:READ=0 1]0 1[READ 2[READ");
        is(b.drawn(0), "[-]..[]...");
        is(b.drawn(1), ".[-----][-");
        is(b.drawn(2), "...[]....[");
        // one that HANGS goes on to the last MOMENT, one that is gone leaves none
        is(play(REGISTER, "0[READ").drawn(0), "[");
        is(play(REGISTER, "0[READ 1:READ=0").drawn(0), "[--");
        is(play(REGISTER, "0[READ 1:READ=0 ~0").drawn(0), "...");
        is(play(REGISTER, "0:READ=0 0:READ=0 ~0 0[READ 1[READ").drawn(0), "..[][-");
        for (int thread : new int[] {-1, 3, Integer.MIN_VALUE, Integer.MAX_VALUE}) {
            refuses(INDEX, () -> play(REGISTER, "0[READ"), x -> x.drawn(thread));
        }
    }
}
