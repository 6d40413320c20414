import java.util.function.Supplier;

/** The boundaries of == 5 and of the promises 36 and 37: which weaker promises hold. */
final class BoundaryPromises extends Boundary {
    private BoundaryPromises() {
    }

    static void all() {
        times();
        threads();
        views();
        viewsWithWhatHangs();
        each();
        promise();
        promises();
    }

    private static void held(Callorder b, boolean times, boolean threads, boolean views, boolean each) {
        is(b.promise(0), times);
        is(b.promise(1), threads);
        is(b.promise(2), views);
        is(b.promise(3), each);
        is(b.promises(), (times ? 1 : 0) + (threads ? 2 : 0) + (views ? 4 : 0) + (each ? 8 : 0));
    }

    private static void times() {
        says("0 TIMES: all CALLS FIT.");
        held(new Callorder(), true, true, true, true);
        held(play(REGISTER, "0:WRITE1=0 1:READ=1"), true, true, true, true);
        // one MOMENT more, and the times are not kept
        held(play(REGISTER, "0[WRITE1 1[READ 0]0 1]0"), true, true, true, true);
        held(play(REGISTER, "0:WRITE1=0 1:READ=0"), false, true, true, true);
        // all CALLS, of one THING or of several
        held(play(things(REGISTER, REGISTER), "0:WRITE1=0 1:1.READ=0 1:READ=1"), true, true, true, true);
    }

    private static void threads() {
        says("1 THREADS: there is a VALID ORDER of all CALLS that KEEPS THREADS.");
        held(play(REGISTER, "0:READ=1 1:WRITE1=0"), false, true, true, true);
        held(play(REGISTER, "0:READ=1 0:WRITE1=0"), false, false, false, false);
        // each writes one and reads the other as 0: no ORDER of all, but each view and each THING has one
        held(play(things(REGISTER, REGISTER), "0:WRITE1=0 0:1.READ=0 1:1.WRITE1=0 1:READ=0"), false, false, true, true);
        // one of the two reads the other: there is one
        held(play(things(REGISTER, REGISTER), "0:WRITE1=0 0:1.READ=0 1:1.WRITE1=0 1:READ=1"), true, true, true, true);
        held(play(things(REGISTER, REGISTER), "0:WRITE1=0 0:1.READ=1 1:1.WRITE1=0 1:READ=0"), false, true, true, true);
        // what HANGS may stand or not
        held(play(REGISTER, "0[WRITE1 1:READ=1 2:READ=0"), false, true, true, true);
        held(play(REGISTER, "0[WRITE1 1:READ=1 1:READ=0"), false, false, false, false);
        held(play(REGISTER, "0[WRITE1 1:READ=0 1:READ=1"), true, true, true, true);
    }

    private static void views() {
        says("2 VIEWS: for each THREAD there is a VALID ORDER that KEEPS THREADS of its own CALLS and those CALLS of others whose OP can"
                + " CHANGE a THING; these others are MUTE (if they do not HANG they have to stand in it, otherwise they may).");
        // two see two WRITES in two ORDERS: each view has one, the THING has none
        held(play(REGISTER, "0:WRITE1=0 1:WRITE2=0 0:READ=2 1:READ=1"), false, false, true, false);
        // one of them sees both in one way and then in the other
        held(play(REGISTER, "0:WRITE1=0 1:WRITE2=0 2:READ=2 2:READ=1 2:READ=2"), false, false, false, false);
        held(play(REGISTER, "0:WRITE1=0 1:WRITE2=0 2:READ=2 2:READ=1"), false, true, true, true);
        // for each THREAD, also the third one
        for (int t = 0; t <= 2; t++) {
            is(play(REGISTER, "t:READ=5".replace("t", "" + t)).promise(2), false);
            is(play(REGISTER, "t:READ=0".replace("t", "" + t)).promise(2), true);
        }
        // the others are MUTE: what they were answered is no matter to this one, only what they do
        held(play(QUEUE, "1:PUT3=0 0:TAKE=3 2:TAKE=3"), false, false, true, false);
        held(play(QUEUE, "1:PUT3=7 0:TAKE=3"), false, false, false, false);
        // the READ of another THREAD is not in a view, the TAKE is
        held(play(things(REGISTER, REGISTER), "1:WRITE1=0 1:1.WRITE1=0 0:1.READ=1 0:READ=0"), false, false, false, true);
        // others keep their THREADS: 2 comes behind 1 of the same one
        held(play(REGISTER, "1:WRITE1=0 1:WRITE2=0 0:READ=2 0:READ=1"), false, false, false, false);
        held(play(REGISTER, "1:WRITE1=0 1:WRITE2=0 0:READ=1 0:READ=2"), false, true, true, true);
        held(play(REGISTER, "1:WRITE1=0 2:WRITE2=0 0:READ=2 0:READ=1"), false, true, true, true);
    }

    private static void viewsWithWhatHangs() {
        says("(if they do not HANG they have to stand in it, otherwise they may).");
        // one that ended has to stand, ahead of the later one of its THREAD that is needed
        is(play(QUEUE, "1:PUT3=0 1:PUT4=0 0:TAKE=4").promise(2), false);
        is(play(QUEUE, "1:PUT3=0 1:PUT4=0 0:TAKE=4 ~0").promise(2), true);
        is(play(QUEUE, "1:PUT3=0 1[PUT4 0:TAKE=3 0:TAKE=4").promise(2), true);
        is(play(QUEUE, "1:PUT3=0 1[PUT4 0:TAKE=4").promise(2), false);
        is(play(LOCK, "1:TAKE=1 1:FREE=1 0:TAKE=0").promise(2), true);
        // it may stand wherever its THREAD lets it, whatever it is answered there
        is(play(LOCK, "1:TAKE=1 0:TAKE=1 0:FREE=1 0:TAKE=1").promise(2), true);
        is(play(LOCK, "1:TAKE=0 0:TAKE=1").promise(2), true);
        is(play(LOCK, "1:TAKE=0 0:TAKE=0").promise(2), true);
        is(play(LOCK, "0:TAKE=0").promise(2), false);
        // one that HANGS may stand
        is(play(QUEUE, "1[PUT3 0:TAKE=3").promise(2), true);
        is(play(QUEUE, "1[PUT3 0:TAKE=0").promise(2), true);
        is(play(QUEUE, "1[PUT3 0:TAKE=3 0:TAKE=3").promise(2), false);
        // its own that HANGS, too
        is(play(REGISTER, "0:READ=0 0[WRITE4").promise(2), true);
        is(play(REGISTER, "0:READ=4 0[WRITE4").promise(2), false);
    }

    private static void each() {
        says("3 EACH: for the CALLS of each THING there is a VALID ORDER that KEEPS THREADS.");
        // each THING has one, but what T0 saw has none: the one WRITE, and not that ahead of it
        held(play(things(REGISTER, REGISTER), "1:WRITE1=0 1:1.WRITE1=0 0:1.READ=1 0:READ=0"), false, false, false, true);
        // the first or the last THING of four has none
        for (int thing = 0; thing <= 3; thing++) {
            Callorder b = with(SET, SET, SET, SET);
            for (int other = 0; other <= 3; other++) {
                b.call(0, other, 2, 1, other == thing ? 1 : 0);
            }
            is(b.promise(3), false);
            b.retell(thing, 0);
            is(b.promise(3), true);
        }
        // the times are no matter to it, the THREADS of one THING are
        is(play(REGISTER, "0:WRITE1=0 1:READ=0").promise(3), true);
        is(play(REGISTER, "0:WRITE1=0 0:READ=0").promise(3), false);
        is(play(things(REGISTER, REGISTER), "0:WRITE1=0 0:1.READ=0").promise(3), true);
    }

    private static void promise() {
        says(36, "- `which`: 0 TIMES, 1 THREADS, 2 VIEWS, 3 EACH", "Returns whether it holds.",
                "Throws `IllegalArgumentException` if which is not 0 to 3");
        Supplier<Callorder> made = () -> play(REGISTER, "0:WRITE1=0 1:WRITE2=0 0:READ=2 1:READ=1");
        boolean[] due = {false, false, true, false};
        for (int which = 0; which <= 3; which++) {
            is(made.get().promise(which), due[which]);
        }
        for (int which : new int[] {-1, 4, Integer.MIN_VALUE, Integer.MAX_VALUE}) {
            refuses(ARGUMENT, made, x -> x.promise(which));
            refuses(ARGUMENT, Callorder::new, x -> x.promise(which));
        }
    }

    private static void promises() {
        says(37, "Returns the set of those that hold.");
        is(new Callorder().promises(), 15);
        is(play(REGISTER, "0:READ=5").promises(), 0);
        is(play(REGISTER, "0:WRITE1=0 1:READ=0").promises(), 2 + 4 + 8);
        is(play(things(REGISTER, REGISTER), "0:WRITE1=0 0:1.READ=0 1:1.WRITE1=0 1:READ=0").promises(), 4 + 8);
        is(play(REGISTER, "0:WRITE1=0 1:WRITE2=0 0:READ=2 1:READ=1").promises(), 4);
        is(play(things(REGISTER, REGISTER), "1:WRITE1=0 1:1.WRITE1=0 0:1.READ=1 0:READ=0").promises(), 8);
    }
}
