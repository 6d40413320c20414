import java.math.BigInteger;
import java.util.ArrayList;
import java.util.List;
import java.util.function.Function;
import java.util.function.Supplier;

/** What goes for all calls, and the boundaries of the promises 51 to 53. */
final class BoundaryAll extends Boundary {
    private BoundaryAll() {
    }

    static void all() {
        fiveHundredTwelve();
        askingChangesNothing();
        changingIsSeenAtOnce();
        throwingChangesNothing();
        firstNamed();
        knock();
        isSound();
        digest();
        digestWrapsAround();
    }

    private static void fiveHundredTwelve() {
        says("An object is used for at most 512 calls after it has been made; what later calls answer is free.");
        Callorder b = new Callorder();
        for (int call = 1; call <= 512; call++) {
            is(b.knock(), call);
        }
        // as many MOMENTS as there can be, and all signs of them in the 512th call
        Callorder c = with(REGISTER);
        for (int time = 0; time < 255; time++) {
            is(c.call(time % 3, 0, 1, 0, 0), 0);
            is(c.forget(0), 0);
        }
        is(c.drawn(2), ".".repeat(510));
        Callorder d = with(REGISTER);
        d.begin(1, 0, 1, 0);
        for (int time = 0; time < 254; time++) {
            is(d.call(0, 0, 1, 0, time % 100), 1);
            is(d.forget(1), 1);
        }
        is(d.end(1, 0), 0);
        is(d.drawn(1), "[" + "-".repeat(508) + "]");
        // as great a COUNT as there can be: one COPY writes, and what it sent is lost
        Callorder e = with(REGISTER);
        for (int count = 1; count <= 127; count++) {
            is(e.write(2, count % 9 + 1), count);
            e.lose(1);
            e.lose(0);
            e.forget(0);
        }
        is(e.ofCopy(2, 1), 127);
        // the dearest questions over and over, each time of something else
        Callorder f = with(QUEUE, SET, REGISTER, STACK);
        for (int time = 0; time < 126; time++) {
            is(f.call(time % 3, 0, 0, time % 9 + 1, 0), 0);
            is(f.isSound(), true);
            is(f.found(time % 7, 0, 8), 0);
            is(f.forget(0), 0);
        }
    }

    /** A bench with some of all: THINGS, CALLS that do not FIT, one that HANGS, a PROGRAM, MESSAGES and KNOCKS. */
    private static Callorder some() {
        Callorder b = play(things(REGISTER, QUEUE, SET), "0:WRITE1=0 1:READ=0 2:1.PUT5=0 0:1.TAKE=5 1:2.ADD3=1 2[2.HAS3 ~4");
        b.write(1, 8);
        b.write(0, 7);
        b.deliver(1);
        Scene.put(b, "WRITE 0 1, LOAD 1", "WRITE 1 1, LOAD 0", "TAKE 2, RAISE 4");
        b.knock();
        return b;
    }

    private static final List<Function<Callorder, Object>> QUESTIONS = List.of(
            b -> b.ofCopy(1, 1), b -> b.ofMessage(0, 1), Callorder::spread, b -> b.kindOf(2), b -> b.ofCall(4, 6), b -> b.bench(3),
            b -> b.isAhead(0, 1), b -> b.isCause(2, 3), b -> b.clock(3), b -> b.text(4), b -> b.drawn(2), b -> b.fits(-1), b -> b.fits(0),
            b -> b.first(-1), b -> b.first(1), b -> b.orders(-1), b -> b.orders(2), Callorder::joined, b -> b.behind(1, 1),
            b -> b.wouldFit(1, 1), b -> b.wouldFit(1, 5), b -> b.core(-1), b -> b.core(0), b -> b.fast(0), b -> b.fast(2), b -> b.why(0, 1),
            b -> b.why(1, 0), b -> b.promise(2), Callorder::promises, b -> b.steps(0), b -> b.ofStep(2, 1, 2), b -> b.outcomes(0),
            b -> b.outcomes(1), b -> b.outcome(1, 0), b -> b.can(1, 110000), b -> b.stuck(1), b -> b.places(1), b -> b.runs(1),
            Callorder::unlike, Callorder::fenced, b -> b.found(1, 1, 8), Callorder::isSound, Callorder::digest);

    private static void askingChangesNothing() {
        says("What one asks for changes nothing.");
        for (int one = 0; one < QUESTIONS.size(); one++) {
            Function<Callorder, Object> question = QUESTIONS.get(one);
            leaves(BoundaryAll::some, question);
            leaves(Callorder::new, b -> {
                try {
                    return question.apply(b);
                } catch (IndexOutOfBoundsException e) {
                    return e.getClass();
                }
            });
            // it is answered alike again, and whatever else was asked before
            Object due = question.apply(some());
            Callorder b = some();
            for (int other = 0; other < QUESTIONS.size(); other++) {
                QUESTIONS.get(other).apply(b);
                is(question.apply(b), due);
            }
        }
    }

    /** Whatever changes something: all that is asked next is as on a bench that was never asked before. */
    private static void changingIsSeenAtOnce() {
        says("What one asks for changes nothing.");
        List<Function<Callorder, Object>> changes = List.of(b -> b.thing(SET), b -> b.begin(0, 0, 0, 3), b -> b.begin(1, 1, 1, 0), b -> b.end(2, 1),
                b -> b.end(2, 0), b -> b.call(0, 1, 1, 0, 0), b -> b.call(1, 0, 0, 1, 0), b -> b.retell(1, 1), b -> b.retell(3, 0), b -> b.forget(0),
                b -> b.forget(1), b -> b.forget(4), b -> b.wipe(false), b -> b.wipe(true), b -> b.tape(0, 9), b -> b.tape(1, 4095),
                b -> b.trial(QUEUE, 2, 7), b -> b.trial(REGISTER, 1, 4095), b -> b.write(1, 4), b -> b.read(0), b -> b.deliver(0), b -> b.lose(1),
                b -> b.repeat(0), b -> b.step(2, 2, 0, 0), b -> b.unstep(0), b -> b.unstep(2), Callorder::knock);
        for (Function<Callorder, Object> change : changes) {
            Callorder due = some();
            change.apply(due);
            // each question alone, asked ahead and behind
            for (Function<Callorder, Object> question : QUESTIONS) {
                Callorder b = some();
                answer(b, question);
                change.apply(b);
                is(answer(b, question), answer(due, question));
            }
            Callorder asked = some();
            for (Function<Callorder, Object> question : QUESTIONS) {
                answer(asked, question);
            }
            change.apply(asked);
            is(Scene.all(asked), Scene.all(due));
        }
    }

    private static Object answer(Callorder b, Function<Callorder, Object> question) {
        try {
            return question.apply(b);
        } catch (IndexOutOfBoundsException | IllegalStateException e) {
            return e.getClass();
        }
    }

    private static void throwingChangesNothing() {
        says("A method that throws an exception changes nothing.");
        // each method that changes something, with each thing that it can be refused for
        Supplier<Callorder> some = BoundaryAll::some;
        Supplier<Callorder> full = () -> after(play(things(REGISTER, REGISTER, REGISTER, REGISTER),
                "0:READ=0 1:READ=0 2:READ=0 0:READ=0 1:READ=0 2:READ=0 0:READ=0 1:READ=0 2[READ"), x -> {
                    for (int part = 0; part <= 2; part++) {
                        x.step(part, 3, 0, 1);
                        x.step(part, 3, 0, 2);
                        x.step(part, 3, 0, 3);
                    }
                });
        Supplier<Callorder> messages = () -> {
            Callorder b = with(REGISTER);
            for (int time = 0; time < 4; time++) {
                b.write(time % 3, time + 1);
            }
            return b;
        };
        refuses(ARGUMENT, some, x -> x.thing(7));
        refuses(STATE, full, x -> x.thing(6));
        refuses(INDEX, some, x -> x.begin(3, 0, 1, 0));
        refuses(INDEX, some, x -> x.begin(0, 3, 1, 0));
        refuses(ARGUMENT, some, x -> x.begin(0, 0, 2, 0));
        refuses(ARGUMENT, some, x -> x.begin(0, 0, 0, 10));
        refuses(STATE, some, x -> x.begin(2, 0, 1, 0));
        refuses(STATE, full, x -> x.begin(0, 0, 1, 0));
        refuses(INDEX, some, x -> x.end(3, 0));
        refuses(ARGUMENT, some, x -> x.end(2, 100));
        refuses(STATE, some, x -> x.end(0, 0));
        refuses(INDEX, some, x -> x.call(-1, 0, 1, 0, 0));
        refuses(INDEX, some, x -> x.call(0, -1, 1, 0, 0));
        refuses(ARGUMENT, some, x -> x.call(0, 0, -1, 0, 0));
        refuses(ARGUMENT, some, x -> x.call(0, 0, 0, 0, 0));
        refuses(ARGUMENT, some, x -> x.call(0, 0, 1, 0, 100));
        refuses(STATE, some, x -> x.call(2, 0, 1, 0, 0));
        refuses(STATE, full, x -> x.call(0, 0, 1, 0, 0));
        refuses(INDEX, some, x -> x.retell(9, 0));
        refuses(ARGUMENT, some, x -> x.retell(0, 100));
        refuses(STATE, some, x -> x.retell(4, 0));
        refuses(INDEX, some, x -> x.forget(7));
        refuses(ARGUMENT, some, x -> x.tape(2, 0));
        refuses(ARGUMENT, some, x -> x.tape(0, 4096));
        refuses(ARGUMENT, some, x -> x.trial(7, 0, 0));
        refuses(ARGUMENT, some, x -> x.trial(0, 4, 0));
        refuses(ARGUMENT, some, x -> x.trial(0, 0, -1));
        refuses(INDEX, some, x -> x.write(3, 1));
        refuses(ARGUMENT, some, x -> x.write(0, 10));
        refuses(STATE, some, x -> x.write(2, 1));
        refuses(STATE, full, x -> x.write(0, 1));
        refuses(STATE, messages, x -> x.write(0, 1));
        refuses(INDEX, some, x -> x.read(3));
        refuses(STATE, some, x -> x.read(2));
        refuses(STATE, full, x -> x.read(0));
        refuses(INDEX, some, x -> x.deliver(3));
        refuses(INDEX, messages, x -> x.deliver(8));
        refuses(INDEX, some, x -> x.lose(3));
        refuses(INDEX, messages, x -> x.lose(8));
        refuses(INDEX, some, x -> x.repeat(3));
        refuses(STATE, messages, x -> x.repeat(7));
        refuses(INDEX, some, x -> x.step(3, 0, 0, 0));
        refuses(ARGUMENT, some, x -> x.step(2, 7, 0, 0));
        refuses(ARGUMENT, some, x -> x.step(2, 0, 3, 0));
        refuses(ARGUMENT, some, x -> x.step(2, 0, 0, 10));
        refuses(STATE, full, x -> x.step(2, 0, 0, 0));
        refuses(INDEX, some, x -> x.unstep(3));
        refuses(ARGUMENT, some, x -> x.found(0, 0, 9));
    }

    private static void firstNamed() {
        says("If several exceptions apply, the one that is named first is thrown.");
        Supplier<Callorder> full = () -> play(things(REGISTER, REGISTER, REGISTER, REGISTER),
                "0:READ=0 1:READ=0 2:READ=0 0:READ=0 1:READ=0 2:READ=0 0:READ=0 1:READ=0 2[READ");
        Supplier<Callorder> steps = () -> program("FENCE, FENCE, FENCE");
        // all three, then the last two
        refuses(ARGUMENT, full, x -> x.thing(7));
        refuses(INDEX, full, x -> x.begin(3, 0, 2, 0));
        refuses(INDEX, full, x -> x.begin(2, 4, 2, 0));
        refuses(ARGUMENT, full, x -> x.begin(2, 0, 2, 0));
        refuses(ARGUMENT, full, x -> x.begin(2, 0, 0, 0));
        refuses(INDEX, full, x -> x.end(3, 100));
        refuses(ARGUMENT, full, x -> x.end(0, 100));
        refuses(INDEX, full, x -> x.call(3, 0, 2, 0, 100));
        refuses(INDEX, full, x -> x.call(2, 4, 2, 0, 100));
        refuses(ARGUMENT, full, x -> x.call(2, 0, 2, 0, 100));
        refuses(ARGUMENT, full, x -> x.call(2, 0, 1, 0, 100));
        refuses(INDEX, full, x -> x.retell(9, 100));
        refuses(ARGUMENT, full, x -> x.retell(8, 100));
        refuses(INDEX, full, x -> x.wouldFit(9, 100));
        refuses(ARGUMENT, full, x -> x.wouldFit(8, 100));
        refuses(INDEX, full, x -> x.write(3, 0));
        refuses(ARGUMENT, full, x -> x.write(2, 0));
        refuses(INDEX, full, x -> x.read(3));
        refuses(INDEX, () -> after(with(REGISTER), x -> {
            for (int time = 0; time < 4; time++) {
                x.write(0, 1);
            }
        }), x -> x.repeat(8));
        refuses(INDEX, full, x -> x.ofCopy(3, 3));
        refuses(INDEX, full, x -> x.ofMessage(0, 4));
        refuses(INDEX, full, x -> x.ofCall(9, 7));
        refuses(INDEX, full, x -> x.behind(4, -1));
        refuses(INDEX, full, x -> x.why(4, 3));
        refuses(INDEX, steps, x -> x.step(3, 7, 0, 0));
        refuses(ARGUMENT, steps, x -> x.step(0, 7, 0, 0));
        refuses(INDEX, steps, x -> x.ofStep(3, 0, 3));
        refuses(INDEX, steps, x -> x.ofStep(0, 3, 3));
    }

    private static void knock() {
        says(51, "Knocks.", "Returns how many KNOCKS there were, with this.");
        Callorder b = new Callorder();
        is(b.bench(5), 0);
        is(b.knock(), 1);
        is(b.bench(5), 1);
        is(b.knock(), 2);
        // neither what is wiped, nor a tape or a trial takes any away
        b.wipe(true);
        b.tape(0, 0);
        b.trial(0, 0, 0);
        is(b.bench(5), 2);
        is(b.knock(), 3);
        // nothing else comes of it
        is(b.bench(1), 9);
        is(b.bench(3), 18);
        is(new Callorder().knock(), 1);
    }

    private static void isSound() {
        says(52, "Returns whether all of this is so: all CALLS FIT just if those of each THING do, and then JOINED is a GOOD ORDER of all (of those"
                + " that are in the FIRST ORDERS); where there is a FAST way, it tells what fits() tells; if promise 0 holds, so does 1; if 1 holds,"
                + " so do 2 and 3; if all CALLS do not FIT, they do not with all being MUTE but those of the CORE either, but do with any one of these"
                + " being MUTE, too; each OUTCOME of MODEL 0 is one of MODEL 1, and there are as many in MODEL 0 as fenced() tells; there are no more"
                + " RUNS of MODEL 0 than of MODEL 1, and no fewer than unlike() tells.");
        is(new Callorder().isSound(), true);
        is(some().isSound(), true);
        // each THING FITS, and JOINED is not the FIRST ORDER of all
        is(play(things(REGISTER, REGISTER), "0[WRITE1 1:1.WRITE2=0").isSound(), true);
        is(play(things(REGISTER, REGISTER), "0[WRITE1 1[READ 0]0 0[1.WRITE1 1]0 1[1.READ 0]0 1]1").isSound(), true);
        // one THING does not FIT; a CORE of one, of two, of three
        is(play(things(REGISTER, SET), "0:READ=1 1:1.HAS3=0").isSound(), true);
        is(play(QUEUE, "0:PUT1=0 1[TAKE 2[TAKE 1]1 2]1").isSound(), true);
        is(play(LOCK, "0[TAKE 1[TAKE 2[TAKE 0]0 1]0 2]0").isSound(), true);
        // each reason of a FAST way
        is(play(things(REGISTER, QUEUE, SET), "0:READ=1 0:1.TAKE=1 0:2.HAS1=1").isSound(), true);
        is(play(things(REGISTER, QUEUE), "0:READ=1 0:WRITE1=0 0:1.PUT1=0 0:1.TAKE=1 0:1.TAKE=1").isSound(), true);
        is(play(things(REGISTER, QUEUE), "0:WRITE1=0 1:READ=0 0:1.PUT1=0 0:1.PUT2=0 0:1.TAKE=2").isSound(), true);
        is(play(things(REGISTER, QUEUE), "0:WRITE1=7 0:1.PUT1=0 0:1.TAKE=0").isSound(), true);
        // each set of promises that there is
        is(play(REGISTER, "0:WRITE1=0 1:READ=0").isSound(), true);
        is(play(things(REGISTER, REGISTER), "0:WRITE1=0 0:1.READ=0 1:1.WRITE1=0 1:READ=0").isSound(), true);
        is(play(REGISTER, "0:WRITE1=0 1:WRITE2=0 0:READ=2 1:READ=1").isSound(), true);
        is(play(things(REGISTER, REGISTER), "1:WRITE1=0 1:1.WRITE1=0 0:1.READ=1 0:READ=0").isSound(), true);
        is(play(REGISTER, "0:READ=5").isSound(), true);
        // programs that END in fewer ways without BUFFERS, that are STUCK always, that have one RUN
        is(program("WRITE 0 1, LOAD 1", "WRITE 1 1, LOAD 0").isSound(), true);
        is(program("TAKE 0, TAKE 0").isSound(), true);
        is(program("WRITE 0 0, WRITE 0 0, WRITE 0 0", "WRITE 0 0, WRITE 0 0, WRITE 0 0", "WRITE 0 0, WRITE 0 0, WRITE 0 0").isSound(), true);
        for (int seed = 0; seed < 4096; seed += 64) {
            Callorder b = new Callorder();
            for (int kind = 0; kind <= 6; kind++) {
                for (int fault = 0; fault <= 3; fault++) {
                    b.trial(kind, fault, seed);
                    is(b.isSound(), true);
                }
            }
        }
    }

    /** All that the digest is of, in its order. */
    private static List<Long> digested(Callorder b) {
        List<Long> all = new ArrayList<>();
        for (int what = 0; what <= 5; what++) {
            all.add((long) b.bench(what));
        }
        for (int call = 0; call < b.bench(1); call++) {
            for (int what = 0; what <= 6; what++) {
                all.add((long) b.ofCall(call, what));
            }
            all.add((long) b.text(call).length());
            all.add((long) b.clock(call).length());
            all.add(b.isCause(call, call) ? 1L : 0L);
        }
        for (int thread = 0; thread <= 2; thread++) {
            all.add((long) b.drawn(thread).length());
        }
        int things = b.bench(0);
        for (int number = 0; number <= things; number++) {
            int part = number == things ? -1 : number;
            all.add(b.fits(part) ? 1L : 0L);
            all.add((long) b.first(part).length());
            all.add(b.orders(part));
            all.add((long) b.core(part));
        }
        for (int thing = 0; thing < things; thing++) {
            all.add((long) b.fast(thing));
            for (int what = 0; what <= 2; what++) {
                all.add((long) b.why(thing, what));
            }
        }
        all.add((long) b.promises());
        all.add((long) b.joined().length());
        for (int copy = 0; copy <= 2; copy++) {
            for (int what = 0; what <= 2; what++) {
                all.add((long) b.ofCopy(copy, what));
            }
        }
        for (int message = 0; message < b.bench(4); message++) {
            for (int what = 0; what <= 3; what++) {
                all.add((long) b.ofMessage(message, what));
            }
        }
        all.add((long) b.spread());
        for (int part = 0; part <= 2; part++) {
            all.add((long) b.steps(part));
            for (int place = 0; place < b.steps(part); place++) {
                for (int what = 0; what <= 2; what++) {
                    all.add((long) b.ofStep(part, place, what));
                }
            }
        }
        for (int model = 0; model <= 1; model++) {
            all.add((long) b.outcomes(model));
            all.add((long) b.outcome(model, 0));
            all.add((long) b.stuck(model));
            all.add((long) b.places(model));
            all.add(b.runs(model));
        }
        all.add(b.unlike());
        all.add((long) b.fenced());
        all.add(b.isSound() ? 1L : 0L);
        return all;
    }

    /** The digest without a wrap-around. */
    private static BigInteger whole(Callorder b) {
        BigInteger d = BigInteger.valueOf(4203);
        for (long v : digested(b)) {
            d = d.multiply(BigInteger.valueOf(31)).add(BigInteger.valueOf(v));
        }
        return d;
    }

    private static final List<Supplier<Callorder>> BENCHES = List.of(Callorder::new, BoundaryAll::some,
            () -> with(LOCK, CELL, COUNTER, STACK),
            () -> play(REGISTER, "1:READ=1 1:WRITE1=0 0[READ 2[WRITE7"),
            () -> play(things(REGISTER, QUEUE, SET), "0:WRITE8=0 0:WRITE3=0 1:READ=8 0:1.TAKE=5 1:2.HAS9=1 2:1.PUT5=10"),
            () -> play(LOCK, "0[TAKE 1[TAKE 2[TAKE 0]0 1]0 2]0"),
            () -> play(SET, "0[HAS1 2[HAS1 1:HAS1=0 1:HAS1=0 1:HAS1=0 1:HAS1=0 1:HAS1=0 1:HAS1=0 1:HAS1=0 0]0"),
            () -> play(things(REGISTER, REGISTER), "0:WRITE1=0 0:1.READ=0 1:1.WRITE1=0 1:READ=0"),
            () -> program("TAKE 0, WRITE 0 0, SWAP 2 99", "TAKE 0, STORE 1, RAISE 9", "LOAD 1"),
            () -> program("WRITE 0 1, WRITE 0 2, WRITE 0 3", "WRITE 1 1, WRITE 1 2, WRITE 1 3", "WRITE 2 1, WRITE 2 2, WRITE 2 3"));

    private static void digest() {
        says(53, "Computes a checksum. A number d starts with 4203; then d becomes d * 31 + v, which wraps around as a 64-bit integer, for each v in"
                + " this order: bench() of 0 to 5; CALL by CALL ofCall() of 0 to 6, the number of signs of text(), that of clock(), 1 if isCause() of"
                + " it and itself, otherwise 0; THREAD by THREAD the number of signs of drawn(); THING by THING, then for -1, all of these: 1 if"
                + " fits(), otherwise 0, the number of signs of first(), orders(), core(); THING by THING fast() and why() of 0 to 2; promises(); the"
                + " number of signs of joined(); COPY by COPY ofCopy() of 0 to 2; MESSAGE by MESSAGE ofMessage() of 0 to 3; spread(); PART by PART of"
                + " the PROGRAM steps(), STEP by STEP ofStep() of 0 to 2; for MODEL 0, then for 1, outcomes(), outcome() of 0, stuck(), places(),"
                + " runs(); unlike(); fenced(); 1 if isSound(), otherwise 0.", "Returns d.");
        // of a new object, worked out by hand from its 41 numbers
        long d = 4203;
        long[] due = {0, 0, 0, 0, 0, 0, 0, 0, 0, 1, 0, 1, 0, 15, 0, 0, 0, 0, 0, 0, 0, 0, 0, 0, 1, 0, 0, 0, 1, 0, 0, 1, 1, 1, 0, 0, 1, 1, 1, 1, 1};
        for (long v : due) {
            d = d * 31 + v;
        }
        is(new Callorder().digest(), d);
        for (Supplier<Callorder> made : BENCHES) {
            is(made.get().digest(), whole(made.get()).longValue());
            // the same again, and on a bench that was asked much
            Callorder b = made.get();
            b.digest();
            is(b.digest(), made.get().digest());
        }
        // whatever one changes, it is seen
        Supplier<Callorder> made = BoundaryAll::some;
        long before = made.get().digest();
        is(after(made.get(), x -> x.knock()).digest() == before, false);
        is(after(made.get(), x -> x.thing(CELL)).digest() == before, false);
        is(after(made.get(), x -> x.retell(0, 9)).digest() == before, false);
        is(after(made.get(), x -> x.lose(0)).digest() == before, false);
        is(after(made.get(), x -> x.unstep(2)).digest() == before, false);
        is(after(made.get(), x -> x.end(2, 0)).digest() == before, false);
    }

    private static void digestWrapsAround() {
        says(53, "which wraps around as a 64-bit integer,");
        BigInteger limit = BigInteger.ONE.shiftLeft(63);
        boolean isBelow = false;
        for (Supplier<Callorder> made : BENCHES) {
            BigInteger whole = whole(made.get());
            // far beyond 64 bits, so what is told is what is left of it, below 0 or above
            is(whole.compareTo(limit) > 0, true);
            long got = made.get().digest();
            is(BigInteger.valueOf(got).subtract(whole).mod(BigInteger.ONE.shiftLeft(64)).signum(), 0);
            isBelow |= got < 0;
        }
        is(isBelow, true);
    }
}
