import java.util.function.Supplier;

/** The boundaries of == 8 and of the promises 23 and 24: what was a CAUSE of what. */
final class BoundaryCauses extends Boundary {
    private BoundaryCauses() {
    }

    static void all() {
        sameThread();
        handedOn();
        onlyOneGave();
        causeOfACause();
        rings();
        isCause();
        clock();
    }

    private static void causes(Callorder b, int one, int... others) {
        for (int other = 0; other < b.bench(1); other++) {
            boolean isDue = false;
            for (int due : others) {
                isDue |= due == other;
            }
            is(b.isCause(one, other), isDue);
        }
    }

    private static void sameThread() {
        says("One CALL is a CAUSE of another one, if it is of the same THREAD and has the smaller number;");
        Callorder b = play(things(REGISTER, LOCK), "0:READ=0 1:READ=0 0:1.TAKE=1 2:READ=0 1:1.FREE=0 0[READ 1[READ");
        causes(b, 0, 2, 5);
        causes(b, 1, 4, 6);
        causes(b, 2, 5);
        causes(b, 3);
        causes(b, 4, 6);
        causes(b, 5);
        causes(b, 6);
    }

    private static void handedOn() {
        says("if it is the one WRITE or PUT of a VALUE on a REGISTER, QUEUE or STACK (no other one has that VALUE there),"
                + " and the other is a READ or TAKE on that THING that was ANSWERED that VALUE;");
        String[] gives = {"WRITE", "PUT", "PUT"};
        String[] gets = {"READ", "TAKE", "TAKE"};
        for (int kind = 0; kind <= 2; kind++) {
            for (int value = 1; value <= 9; value++) {
                String give = "0:" + gives[kind] + value + "=0 ";
                String get = "1:" + gets[kind] + "=" + value;
                causes(play(kind, give + get), 0, 1);
                // it may come behind, it may overlap, it may be wrong: only the VALUE tells
                causes(play(kind, get + " " + give), 1, 0);
                causes(play(kind, give + "1:" + gets[kind] + "=" + (value % 9 + 1)), 0);
                causes(play(kind, give + "1:" + gets[kind] + "=0"), 0);
                causes(play(kind, give + "1:" + gets[kind] + "=" + (value + 10)), 0);
                // several that were answered it
                causes(play(kind, give + get + " 2:" + gets[kind] + "=" + value), 0, 1, 2);
                // one that HANGS was answered nothing, but may have given
                causes(play(kind, give + "1[" + gets[kind]), 0);
                causes(play(kind, "0[" + gives[kind] + value + " " + get), 0, 1);
                // on another THING
                causes(play(things(kind, kind), give + "1:1." + gets[kind] + "=" + value), 0);
            }
        }
        // not of the other KINDS
        causes(play(CELL, "0:WRITE5=0 1:READ=5"), 0);
        causes(play(CELL, "0:SWAP5=1 1:READ=5"), 0);
        causes(play(COUNTER, "0:ADD5=5 1:READ=5"), 0);
        causes(play(SET, "0:ADD1=1 1:HAS1=1"), 0);
        causes(play(SET, "0:ADD1=1 1:REMOVE1=1"), 0);
        causes(play(LOCK, "0:TAKE=1 1:FREE=1"), 0);
        // 0 is no VALUE that was given, and a READ or TAKE gives none
        causes(play(REGISTER, "0:READ=0"), 0);
        causes(play(QUEUE, "0:TAKE=0"), 0);
        causes(play(STACK, "0:TAKE=0 1:PUT5=0"), 0);
        causes(play(REGISTER, "0[READ 1:READ=0"), 0);
        // a WRITE that was answered the VALUE is no READ
        causes(play(REGISTER, "0:WRITE5=0 1:WRITE6=5"), 0);
    }

    private static void onlyOneGave() {
        says("(no other one has that VALUE there)");
        String[] gives = {"WRITE", "PUT", "PUT"};
        String[] gets = {"READ", "TAKE", "TAKE"};
        for (int kind = 0; kind <= 2; kind++) {
            String give = gives[kind];
            String get = gets[kind];
            // a second one with the VALUE, ahead of or behind the READ, ended or not: neither is a CAUSE
            Callorder two = play(kind, "0:" + give + "5=0 1:" + get + "=5 2:" + give + "5=0");
            causes(two, 0);
            causes(two, 2);
            Callorder hung = play(kind, "0:" + give + "5=0 2[" + give + "5 1:" + get + "=5");
            causes(hung, 0);
            causes(hung, 1);
            // with another VALUE, or elsewhere, it does not matter, and when it is forgotten neither
            causes(play(kind, "0:" + give + "5=0 1:" + get + "=5 2:" + give + "6=0"), 0, 1);
            causes(play(things(kind, kind), "0:" + give + "5=0 1:" + get + "=5 2:1." + give + "5=0"), 0, 1);
            causes(play(kind, "0:" + give + "5=0 1:" + get + "=5 2:" + give + "5=0 ~2"), 0, 1);
            causes(play(kind, "0:" + give + "5=0 1:" + get + "=5 2:" + give + "5=0 ~0"), 1, 0);
            // three
            causes(play(kind, "0:" + give + "5=0 1:" + get + "=5 2:" + give + "5=0 2:" + give + "5=0"), 2, 3);
        }
    }

    private static void causeOfACause() {
        says("or if it is a CAUSE of a CAUSE of it.");
        // T0 writes, T1 reads it and puts, T2 takes that and reads nothing more
        Callorder b = play(things(REGISTER, QUEUE), "0:WRITE4=0 1:READ=4 1:1.PUT7=0 2:1.TAKE=7 2:1.TAKE=0");
        causes(b, 0, 1, 2, 3, 4);
        causes(b, 1, 2, 3, 4);
        causes(b, 2, 3, 4);
        causes(b, 3, 4);
        causes(b, 4);
        // as long a chain as there can be: each one hands on to the next one of another THREAD, backwards in number, too
        Callorder c = play(things(REGISTER), "0:WRITE1=0 1:READ=1 1:WRITE2=0 2:READ=2 2:WRITE3=0 0:READ=3 0:WRITE4=0 1:READ=4 1:READ=4");
        causes(c, 0, 1, 2, 3, 4, 5, 6, 7, 8);
        causes(c, 4, 5, 6, 7, 8);
        Callorder d = play(things(REGISTER), "2:READ=2 1:READ=1 1:WRITE2=0 0:WRITE1=0");
        causes(d, 3, 0, 1, 2);
        causes(d, 1, 0, 2);
        causes(d, 0);
    }

    private static void rings() {
        says("A CALL that is a CAUSE of itself is in a RING.");
        // one reads what it writes behind
        Callorder one = play(REGISTER, "0:READ=1 0:WRITE1=0");
        causes(one, 0, 0, 1);
        causes(one, 1, 0, 1);
        // each reads what the other writes behind
        Callorder two = play(things(REGISTER, REGISTER), "0:READ=1 0:1.WRITE2=0 1:1.READ=2 1:WRITE1=0 2:READ=0");
        for (int call = 0; call < 4; call++) {
            causes(two, call, 0, 1, 2, 3);
        }
        causes(two, 4);
        // one ahead of a RING causes all of it and is not in it, nor is one behind it
        Callorder three = play(REGISTER, "0:READ=0 0:READ=1 0:WRITE1=0 0:READ=0");
        causes(three, 0, 1, 2, 3);
        causes(three, 1, 1, 2, 3);
        causes(three, 3);
        // no RING, if it was written ahead
        causes(play(REGISTER, "0:WRITE1=0 0:READ=1"), 0, 1);
        causes(play(REGISTER, "0:WRITE1=0 0:READ=1"), 1);
    }

    private static void isCause() {
        says(23, "- `one`: a CALL", "- `other`: a CALL (it may be the same)", "Returns whether the one is a CAUSE of the other.",
                "Throws `IndexOutOfBoundsException` if there is no such CALL as one or other");
        Supplier<Callorder> made = () -> play(REGISTER, "0:READ=0 0:READ=0 1[READ");
        is(made.get().isCause(0, 0), false);
        is(made.get().isCause(0, 1), true);
        is(made.get().isCause(1, 0), false);
        is(made.get().isCause(0, 2), false);
        is(made.get().isCause(2, 2), false);
        for (int no : new int[] {-1, 3, 9, Integer.MIN_VALUE, Integer.MAX_VALUE}) {
            refuses(INDEX, made, x -> x.isCause(no, 0));
            refuses(INDEX, made, x -> x.isCause(2, no));
            refuses(INDEX, made, x -> x.isCause(no, no));
        }
        refuses(INDEX, Callorder::new, x -> x.isCause(0, 0));
    }

    private static void clock() {
        says("CLOCK of a CALL: three numbers, for each THREAD how many CALLS of it are a CAUSE of that CALL, or the CALL itself.");
        says(24, "- `call`: a CALL", "Returns its CLOCK, with \",\" between two numbers (\"2,0,1\").",
                "Throws `IndexOutOfBoundsException` if there is no such CALL");
        Callorder b = play(things(REGISTER, STACK), "0:WRITE4=0 0:1.PUT5=0 2:READ=4 1:1.TAKE=5 2:READ=0 1[READ");
        String[] due = {"1,0,0", "2,0,0", "1,0,1", "2,1,0", "1,0,2", "2,2,0"};
        for (int call = 0; call < 6; call++) {
            is(b.clock(call), due[call]);
        }
        is(play(things(STACK), "0:PUT1=0 0:PUT2=0 2:TAKE=2").clock(2), "2,0,1");
        // the CALL itself counts once, in a RING, too
        is(play(REGISTER, "1:READ=1 1:WRITE1=0").clock(0), "0,2,0");
        is(play(REGISTER, "1:READ=1 1:WRITE1=0").clock(1), "0,2,0");
        // the greatest number: all nine of one THREAD
        Callorder nine = play(REGISTER, "2:READ=0 2:READ=0 2:READ=0 2:READ=0 2:READ=0 2:READ=0 2:READ=0 2:READ=0 2[READ");
        for (int call = 0; call < 9; call++) {
            is(nine.clock(call), "0,0," + (call + 1));
        }
        for (int no : new int[] {-1, 6, 9, Integer.MIN_VALUE, Integer.MAX_VALUE}) {
            refuses(INDEX, () -> play(REGISTER, "0:READ=0 0:READ=0 0:READ=0 0:READ=0 0:READ=0 0:READ=0"), x -> x.clock(no));
        }
        refuses(INDEX, Callorder::new, x -> x.clock(0));
    }
}
