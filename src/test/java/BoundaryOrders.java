import java.util.function.Supplier;

/** The boundaries of == 3 and of the promises 27 to 33: ORDERS, JOINED and the CORE. */
final class BoundaryOrders extends Boundary {
    private BoundaryOrders() {
    }

    static void all() {
        parts();
        noCalls();
        mute();
        whatHangsMayStand();
        valid();
        keepsTimes();
        keepsThreads();
        fits();
        first();
        orders();
        joined();
        behind();
        wouldFit();
        core();
    }

    /** What a PART is told of. */
    private static void part(Callorder b, int part, String first, long orders, int core) {
        is(b.fits(part), !first.equals("none"));
        is(b.first(part), first);
        is(b.orders(part), orders);
        is(b.core(part), core);
    }

    private static void parts() {
        says("A PART are the CALLS of one THING, or all of them.");
        Callorder b = play(things(REGISTER, REGISTER, SET), "0:WRITE1=0 0:1.WRITE2=0 1:READ=0 1:1.READ=2");
        part(b, 0, "none", 0, 4);
        part(b, 1, "1 3", 1, 0);
        part(b, 2, "", 1, 0);
        part(b, -1, "none", 0, 4);
        // the CALLS of one THING alone: what another THING is answered is no matter there
        b.retell(2, 1);
        b.retell(3, 7);
        part(b, 0, "0 2", 1, 0);
        part(b, 1, "none", 0, 8);
        part(b, -1, "none", 0, 8);
        for (int many = 0; many <= 4; many++) {
            int things = many;
            Supplier<Callorder> made = () -> with(new int[things]);
            for (int no : new int[] {-2, many, Integer.MIN_VALUE, Integer.MAX_VALUE}) {
                refuses(INDEX, made, x -> x.fits(no));
                refuses(INDEX, made, x -> x.first(no));
                refuses(INDEX, made, x -> x.orders(no));
                refuses(INDEX, made, x -> x.core(no));
            }
            for (int part = -1; part < many; part++) {
                part(made.get(), part, "", 1, 0);
            }
        }
    }

    private static void noCalls() {
        says("An ORDER is a row of CALLS of the PART, none twice, in which all stand that do not HANG, and some of those that HANG or none.");
        // the row of no CALLS is an ORDER, if all HANG or none are there
        part(new Callorder(), -1, "", 1, 0);
        part(with(QUEUE), 0, "", 1, 0);
        part(play(QUEUE, "0[TAKE"), 0, "", 2, 0);
        part(play(QUEUE, "0[TAKE 1[TAKE"), 0, "", 5, 0);
        part(play(QUEUE, "0[TAKE 1[TAKE 2[TAKE"), 0, "", 16, 0);
        part(play(QUEUE, "0[TAKE 1[TAKE 2[TAKE"), -1, "", 16, 0);
        // one that does not HANG stands in all of them
        part(play(QUEUE, "0:TAKE=0"), 0, "0", 1, 0);
        part(play(QUEUE, "0[TAKE 1:TAKE=0"), 0, "0 1", 3, 0);
        part(play(QUEUE, "0[TAKE 1[TAKE 2:TAKE=0"), 0, "0 1 2", 3 * 2 + 4 + 1, 0);
    }

    private static void mute() {
        says("A CALL is MUTE, if it is said that its ANSWER does not matter, for the question asked.");
        // MUTE in a view: T1 was answered what cannot be, which is no matter to T0, but to T1
        Callorder b = play(LOCK, "1:TAKE=7 0:TAKE=0");
        is(b.promise(2), false);
        is(b.core(0), 1);
        // MUTE for one question is not for the next one
        part(b, 0, "none", 0, 1);
        is(b.fits(0), false);
        is(b.wouldFit(0, 1), true);
        is(b.fits(0), false);
    }

    private static void whatHangsMayStand() {
        says("An ORDER is a row of CALLS of the PART, none twice, in which all stand that do not HANG, and some of those that HANG or none.");
        // it has to stand
        part(play(REGISTER, "1[WRITE2 0:READ=2"), 0, "0 1", 1, 0);
        // it cannot stand ahead
        part(play(REGISTER, "1[WRITE2 0:READ=0"), 0, "1", 2, 0);
        // it may do what it would for one THING alone
        part(play(things(REGISTER, QUEUE), "1[1.PUT2 0:READ=2"), -1, "none", 0, 2);
        part(play(QUEUE, "1[PUT2 0:TAKE=0 0:TAKE=2 0:TAKE=0"), 0, "1 0 2 3", 1, 0);
        // two times it cannot, and each of the two TAKES alone could be so
        part(play(QUEUE, "1[PUT2 0:TAKE=2 0:TAKE=2"), 0, "none", 0, 2 + 4);
    }

    private static void valid() {
        says("It is VALID, if all things, each from its STATE as it begins, step by step in that order, ANSWER what those CALLS told that"
                + " neither HANG nor are MUTE (what the others are answered does not matter).");
        // the row of all has to be right for each THING, each beginning fresh
        part(play(things(QUEUE, QUEUE), "0:PUT1=0 0:1.PUT2=0 1:TAKE=1 1:1.TAKE=2"), -1, "0 1 2 3", 1, 0);
        part(play(things(QUEUE, QUEUE), "0:PUT1=0 0:1.PUT2=0 1:TAKE=2 1:1.TAKE=1"), -1, "none", 0, 8);
        part(play(things(COUNTER, COUNTER), "0:ADD1=1 0:1.ADD1=1 0:ADD1=2 0:1.ADD1=2"), -1, "0 1 2 3", 1, 0);
        part(play(things(LOCK, LOCK, LOCK, LOCK), "0:TAKE=1 1:1.TAKE=1 2:2.TAKE=1 0:3.TAKE=1 1:TAKE=0 1:1.FREE=1"), -1, "0 1 2 3 4 5", 1, 0);
        // as many as can be, of the KINDS that hold most
        Callorder full = play(things(SET, SET, SET, QUEUE), "0:ADD9=1 1:1.ADD9=1 2:2.ADD9=1 0:3.PUT9=0 0:3.PUT9=0 0:3.PUT9=0 0:3.PUT9=0"
                + " 0:3.TAKE=9 1:3.PUT8=0");
        part(full, -1, "0 1 2 3 4 5 6 7 8", 1, 0);
        full.retell(7, 8);
        part(full, -1, "none", 0, 128);
        Callorder rows = play(things(STACK, QUEUE), "0:PUT9=0 0:PUT8=0 0:1.PUT9=0 0:1.PUT8=0 0:1.PUT7=0 0:TAKE=8 0:1.TAKE=9 0:TAKE=9 0:1.TAKE=8");
        part(rows, -1, "0 1 2 3 4 5 6 7 8", 1, 0);
    }

    private static void keepsTimes() {
        says("It KEEPS TIMES, if no CALL stands in it behind one that it is AHEAD of.");
        // the END one MOMENT ahead of the BEGIN, and the other way round
        part(play(REGISTER, "0:WRITE1=0 1:READ=0"), 0, "none", 0, 2);
        part(play(REGISTER, "0[WRITE1 1[READ 0]0 1]0"), 0, "1 0", 1, 0);
        part(play(REGISTER, "0[WRITE1 1[READ 0]0 1]1"), 0, "0 1", 1, 0);
        part(play(REGISTER, "0[WRITE1 1:READ=0 0]0"), 0, "1 0", 1, 0);
        part(play(REGISTER, "0[WRITE1 1:READ=1 0]0"), 0, "0 1", 1, 0);
        part(play(REGISTER, "1:READ=1 0:WRITE1=0"), 0, "none", 0, 1);
        // one that HANGS is ahead of none, but others are ahead of it
        part(play(REGISTER, "0[WRITE1 1:READ=0 1:READ=1 1:READ=1"), 0, "1 0 2 3", 1, 0);
        part(play(REGISTER, "1:READ=1 0[WRITE1"), 0, "none", 0, 1);
        // a MOMENT of a CALL that was forgotten lies between as well
        part(play(REGISTER, "0:WRITE1=0 2:READ=5 1:READ=0 ~1"), 0, "none", 0, 2);
        part(play(REGISTER, "0[WRITE1 2:READ=5 1[READ 0]0 1]0 ~1"), 0, "1 0", 1, 0);
        // across THINGS
        part(play(things(REGISTER, REGISTER), "0[WRITE1 1:READ=0 1:1.READ=0 0]0"), -1, "1 0 2", 2, 0);
        part(play(things(REGISTER, REGISTER), "0:WRITE1=0 1:1.READ=0"), -1, "0 1", 1, 0);
    }

    private static void keepsThreads() {
        says("It KEEPS THREADS, if of each two CALLS of one THREAD that with the smaller number stands first"
                + " (only the last CALL of a THREAD can HANG).");
        // two of one THREAD, two of two THREADS
        is(play(REGISTER, "0:WRITE1=0 0:READ=0").promise(1), false);
        is(play(REGISTER, "0:WRITE1=0 1:READ=0").promise(1), true);
        is(play(REGISTER, "0:READ=1 0:WRITE1=0").promise(1), false);
        is(play(REGISTER, "0:READ=1 1:WRITE1=0").promise(1), true);
        // as far away as they can be
        is(play(REGISTER, "0:READ=1 1:READ=0 2:READ=0 1:READ=0 2:READ=0 1:READ=0 2:READ=0 1:READ=0 0:WRITE1=0").promise(1), false);
        is(play(REGISTER, "0:READ=1 1:READ=0 2:READ=0 1:READ=0 2:READ=0 1:READ=0 2:READ=0 0:READ=1 1:WRITE1=0").promise(1), true);
        // one that HANGS stands behind all others of its THREAD, or not at all
        is(play(REGISTER, "0:READ=1 0[WRITE1").promise(1), false);
        is(play(REGISTER, "0:READ=1 1[WRITE1").promise(1), true);
        is(play(REGISTER, "0:READ=0 0[WRITE1 1:READ=1 1:READ=1").promise(1), true);
        is(play(REGISTER, "0:READ=0 0[WRITE1 1:READ=0 1:READ=0").promise(1), true);
    }

    private static void fits() {
        says("GOOD ORDERS are those that are VALID and KEEP TIMES.", "A PART FITS, if there is a GOOD ORDER.");
        says(27, "- `part`: a THING, or -1 for all CALLS", "Returns whether the PART FITS.",
                "Throws `IndexOutOfBoundsException` if part is not -1, and there is no such THING");
        // VALID, but not within the times; within the times, but not VALID; both
        is(play(REGISTER, "0:WRITE1=0 1:READ=0").fits(0), false);
        is(play(REGISTER, "0:WRITE1=0 1:READ=2").fits(0), false);
        is(play(REGISTER, "0:WRITE1=0 1:READ=1").fits(0), true);
        Callorder b = play(things(REGISTER, REGISTER), "0:WRITE1=0 1:1.READ=5");
        is(b.fits(0), true);
        is(b.fits(1), false);
        is(b.fits(-1), false);
        refuses(INDEX, () -> with(REGISTER, REGISTER), x -> x.fits(2));
        refuses(INDEX, () -> with(REGISTER, REGISTER), x -> x.fits(-2));
        refuses(INDEX, () -> with(), x -> x.fits(0));
    }

    private static void first() {
        says("ORDERS are compared place by place by the numbers of their CALLS; one that is the beginning of another one is the smaller one.",
                "The FIRST ORDER is the smallest GOOD ORDER.");
        says(28, "- `part`: a THING, or -1 for all CALLS",
                "Returns the FIRST ORDER of the PART, the numbers with a blank between two; \"none\", if it does not FIT.",
                "Throws `IndexOutOfBoundsException` if part is not -1, and there is no such THING");
        // what HANGS does not come behind all others, though it could: the beginning is the smaller one
        is(play(REGISTER, "0:WRITE1=0 1[WRITE2").first(0), "0");
        is(play(REGISTER, "0:WRITE1=0 1[WRITE2 2[WRITE3").first(0), "0");
        is(play(REGISTER, "1[WRITE2").first(0), "");
        // but it comes ahead of greater numbers, if it can, needed or not
        is(play(REGISTER, "1[WRITE2 0:WRITE1=0").first(0), "0 1");
        is(play(REGISTER, "1[WRITE2 0:READ=0 0:READ=2").first(0), "1 0 2");
        is(play(REGISTER, "1[WRITE2 0:READ=0 0:WRITE3=0").first(0), "1 0 2");
        is(play(REGISTER, "1[WRITE2 0:READ=0 0:READ=0").first(0), "1 2");
        // place by place: the first place that differs tells, though a later one be greater
        is(play(QUEUE, "0[PUT1 1[PUT2 2[PUT3 0]0 1]0 2]0").first(0), "0 1 2");
        is(play(QUEUE, "0[PUT1 1[PUT2 2[PUT3 0]0 1]0 2]0 0:TAKE=1 1:TAKE=3").first(0), "0 2 1 3 4");
        is(play(QUEUE, "0[PUT1 1[PUT2 2[PUT3 0]0 1]0 2]0 0:TAKE=2 1:TAKE=1").first(0), "1 0 2 3 4");
        is(play(QUEUE, "0[PUT1 1[PUT2 2[PUT3 0]0 1]0 2]0 0:TAKE=2 1:TAKE=3").first(0), "1 2 0 3 4");
        is(play(QUEUE, "0[PUT1 1[PUT2 2[PUT3 0]0 1]0 2]0 0:TAKE=3 1:TAKE=1").first(0), "2 0 1 3 4");
        is(play(QUEUE, "0[PUT1 1[PUT2 2[PUT3 0]0 1]0 2]0 0:TAKE=3 1:TAKE=2").first(0), "2 1 0 3 4");
        is(play(QUEUE, "0[PUT1 1[PUT2 2[PUT3 0]0 1]0 2]0 0:TAKE=3 1:TAKE=3").first(0), "none");
        refuses(INDEX, () -> with(REGISTER), x -> x.first(1));
        refuses(INDEX, () -> with(REGISTER), x -> x.first(-2));
    }

    private static void orders() {
        says(29, "- `part`: a THING, or -1 for all CALLS", "Returns how many GOOD ORDERS the PART has.",
                "Throws `IndexOutOfBoundsException` if part is not -1, and there is no such THING");
        is(play(SET, "0:ADD1=0").orders(0), 0);
        is(play(SET, "0:ADD1=1").orders(0), 1);
        is(play(SET, "0[ADD1 1[ADD2 0]1 1]1").orders(0), 2);
        is(play(SET, "0[ADD1 1[ADD2 2[ADD3 0]1 1]1 2]1").orders(0), 6);
        // one over eight others at any of nine places
        is(play(SET, "0[HAS1 1:HAS1=0 1:HAS1=0 1:HAS1=0 1:HAS1=0 1:HAS1=0 1:HAS1=0 1:HAS1=0 1:HAS1=0 0]0").orders(0), 9);
        // one over seven others at any of eight places, then one that HANGS nowhere, or at any of nine
        Callorder b = play(SET, "0[HAS1 2[HAS1 1:HAS1=0 1:HAS1=0 1:HAS1=0 1:HAS1=0 1:HAS1=0 1:HAS1=0 1:HAS1=0 0]0");
        is(b.orders(0), 8 + 8 * 9);
        is(b.orders(-1), 8 + 8 * 9);
        is(b.first(0), "0 1 2 3 4 5 6 7 8");
        // all of one THING, each of the others by itself
        Callorder c = play(things(SET, SET), "0[ADD1 1[1.ADD2 2[1.ADD3 0]1 1]1 2]1");
        is(c.orders(0), 1);
        is(c.orders(1), 2);
        is(c.orders(-1), 6);
        refuses(INDEX, () -> with(REGISTER), x -> x.orders(1));
        refuses(INDEX, () -> with(REGISTER), x -> x.orders(-2));
    }

    private static void joined() {
        says("JOINED, if each THING by itself FITS: from the FIRST ORDERS of all THINGS one is made: again and again, of the first CALLS not"
                + " yet gone of each of them, that one goes which no CALL that is in one of them and not yet gone is AHEAD of"
                + " (of several the one with the smallest number).");
        says(30, "Returns JOINED, the numbers with a blank between two; \"none\", if some THING does not FIT by itself.");
        is(new Callorder().joined(), "");
        is(with(REGISTER, QUEUE, SET, CELL).joined(), "");
        is(play(REGISTER, "0:READ=0").joined(), "0");
        is(play(REGISTER, "0:READ=1").joined(), "none");
        // one THING of four does not FIT, the first one or the last one
        is(play(things(SET, SET, SET, SET), "0:HAS1=1 0:1.HAS1=0 0:2.HAS1=0 0:3.HAS1=0").joined(), "none");
        is(play(things(SET, SET, SET, SET), "0:HAS1=0 0:1.HAS1=0 0:2.HAS1=0 0:3.HAS1=1").joined(), "none");
        is(play(things(SET, SET, SET, SET), "0:HAS1=0 0:1.HAS1=0 0:2.HAS1=0 0:3.HAS1=0").joined(), "0 1 2 3");
        // of several that can go, that with the smallest number, whatever the number of its THING
        is(play(things(SET, SET), "0[HAS1 1[1.HAS1 0]0 1]0").joined(), "0 1");
        is(play(things(SET, SET), "0[1.HAS1 1[HAS1 0]0 1]0").joined(), "0 1");
        is(play(things(SET, SET, SET), "0[2.HAS1 1[1.HAS1 2[HAS1 0]0 1]0 2]0").joined(), "0 1 2");
        // 0 is AHEAD of 2, so 2 waits, though 1 stands first on its THING
        Callorder b = play(things(REGISTER, REGISTER), "0[WRITE1 1[READ 0]0 0[1.WRITE1 1]0 1[1.READ 0]0 1]1");
        is(b.first(0), "1 0");
        is(b.first(1), "2 3");
        is(b.joined(), "1 0 2 3");
        // the END of 0 one MOMENT behind the BEGIN of 2: 2 does not wait, and goes ahead of the greater 3
        Callorder c = play(things(REGISTER, REGISTER), "0[WRITE1 1[1.WRITE1 2[READ 0]0 1]0 2]0");
        is(c.first(0), "2 0");
        is(c.first(1), "1");
        is(c.joined(), "1 2 0");
        // what HANGS and is in no FIRST ORDER does not come, and none waits for it
        Callorder d = play(things(REGISTER, REGISTER), "0[WRITE1 1:1.WRITE2=0");
        is(d.first(-1), "0 1");
        is(d.joined(), "1");
        // what HANGS and is in one does come
        is(play(things(REGISTER, REGISTER), "0[WRITE1 1:1.WRITE2=0 2:READ=1").joined(), "0 1 2");
        // one THING alone: its FIRST ORDER
        is(play(REGISTER, "1[WRITE2 0:READ=0 0:READ=2").joined(), "1 0 2");
    }

    private static void behind() {
        says(31, "- `thing`: a THING", "- `many`: how many CALLS of its FIRST ORDER",
                "Returns its STATE behind so many first CALLS of its FIRST ORDER (from its STATE as it begins): what a REGISTER or CELL"
                + " holds, the number of a COUNTER, the VALUES of a QUEUE from the front on, of a STACK from the bottom on, of a SET"
                + " rising, with a blank between two (\"\" if empty), of a LOCK \"free\", or \"T\" and the THREAD; \"none\", if it does"
                + " not FIT, or the FIRST ORDER has fewer CALLS.",
                "Throws `IndexOutOfBoundsException` if there is no such THING", "Throws `IllegalArgumentException` if many is below 0");
        String[] begins = {"0", "", "", "", "0", "free", "0"};
        for (int kind = 0; kind <= 6; kind++) {
            is(with(kind).behind(0, 0), begins[kind]);
            is(with(kind).behind(0, 1), "none");
            is(with(kind).behind(0, Integer.MAX_VALUE), "none");
            int k = kind;
            refuses(ARGUMENT, () -> with(k), x -> x.behind(0, -1));
            refuses(ARGUMENT, () -> with(k), x -> x.behind(0, Integer.MIN_VALUE));
            for (int no : new int[] {-1, 1, Integer.MIN_VALUE, Integer.MAX_VALUE}) {
                refuses(INDEX, () -> with(k), x -> x.behind(no, 0));
                refuses(INDEX, () -> with(k), x -> x.behind(no, -1));
            }
        }
        row(play(REGISTER, "0:WRITE9=0 0:READ=9 0:WRITE1=0"), "0", "9", "9", "1", "none", "none");
        row(play(CELL, "0:SWAP9=1 0:READ=9 0:SWAP90=1 0:SWAP10=0 0:WRITE0=0 0:WRITE5=0"), "0", "9", "9", "0", "0", "0", "5", "none");
        row(play(COUNTER, "0:ADD9=9 0:READ=9 0:ADD1=10 0:ADD9=19"), "0", "9", "9", "10", "19", "none");
        row(play(QUEUE, "0:PUT9=0 0:PUT1=0 0:PUT1=0 0:TAKE=9 0:TAKE=1 0:TAKE=1 0:TAKE=0"), "", "9", "9 1", "9 1 1", "1 1", "1", "", "", "none");
        row(play(STACK, "0:PUT9=0 0:PUT1=0 0:PUT2=0 0:TAKE=2 0:TAKE=1 0:TAKE=9 0:TAKE=0"), "", "9", "9 1", "9 1 2", "9 1", "9", "", "", "none");
        row(play(SET, "0:ADD9=1 0:ADD1=1 0:ADD5=1 0:ADD5=0 0:HAS5=1 0:REMOVE9=1 0:REMOVE1=1 0:REMOVE5=1"),
                "", "9", "1 9", "1 5 9", "1 5 9", "1 5 9", "1 5", "5", "", "none");
        row(play(LOCK, "0:TAKE=1 1:TAKE=0 0:FREE=1 2:TAKE=1 2:FREE=1 1:TAKE=1"), "free", "T0", "T0", "free", "T2", "free", "T1", "none");
        // not as they began: as they stand in the FIRST ORDER
        Callorder b = play(QUEUE, "0[PUT1 1[PUT2 0]0 1]0 2:TAKE=2");
        is(b.first(0), "1 0 2");
        row(b, "", "2", "2 1", "1", "none");
        // what HANGS counts, if it stands there
        row(play(REGISTER, "1[WRITE2 0:WRITE1=0"), "0", "2", "1", "none");
        row(play(REGISTER, "0:WRITE1=0 1[WRITE2"), "0", "1", "none");
        // it does not FIT
        row(play(REGISTER, "0:WRITE1=0 0:READ=2"), "none", "none", "none");
        // another THING does not matter
        Callorder c = play(things(REGISTER, STACK), "0:READ=5 1:1.PUT3=0");
        is(c.behind(0, 0), "none");
        is(c.behind(1, 1), "3");
        is(c.behind(1, 2), "none");
    }

    private static void row(Callorder b, String... states) {
        for (int many = 0; many < states.length; many++) {
            is(b.behind(0, many), states[many]);
        }
    }

    private static void wouldFit() {
        says(32, "- `call`: a CALL", "- `answer`: an ANSWER",
                "Returns whether the PART of its THING would FIT, if the CALL had told that ANSWER.",
                "Throws `IndexOutOfBoundsException` if there is no such CALL", "Throws `IllegalArgumentException` if answer is not 0 to 99",
                "Throws `IllegalStateException` if it HANGS");
        // two WRITES and a READ that all overlap: it may have been answered 0 or either of them
        for (int answer = 0; answer <= 99; answer++) {
            Callorder b = play(REGISTER, "0[WRITE1 1[WRITE9 2[READ 0]0 1]0 2]5");
            is(b.wouldFit(2, answer), answer == 0 || answer == 1 || answer == 9);
            is(b.wouldFit(0, answer), false);
            is(b.ofCall(2, 6), 5);
            b.retell(2, 9);
            is(b.wouldFit(0, answer), answer == 0);
        }
        // another THING that does not FIT is no matter
        Callorder c = play(things(REGISTER, REGISTER), "0:WRITE1=0 1:READ=0 2:1.READ=5");
        is(c.wouldFit(1, 1), true);
        is(c.wouldFit(1, 0), false);
        is(c.wouldFit(2, 0), true);
        is(c.wouldFit(2, 5), false);
        Supplier<Callorder> made = () -> play(REGISTER, "0:WRITE1=0 1[READ");
        leaves(made, x -> x.wouldFit(0, 99));
        leaves(made, x -> x.wouldFit(0, 0));
        for (int call : new int[] {-1, 2, 9, Integer.MIN_VALUE, Integer.MAX_VALUE}) {
            refuses(INDEX, made, x -> x.wouldFit(call, 0));
            refuses(INDEX, made, x -> x.wouldFit(call, 100));
        }
        for (int answer : new int[] {-1, 100, Integer.MIN_VALUE, Integer.MAX_VALUE}) {
            refuses(ARGUMENT, made, x -> x.wouldFit(0, answer));
            refuses(ARGUMENT, made, x -> x.wouldFit(1, answer));
        }
        refuses(STATE, made, x -> x.wouldFit(1, 0));
        refuses(STATE, made, x -> x.wouldFit(1, 99));
    }

    private static void core() {
        says("CORE of a PART that does not FIT: all its CALLS that do not HANG are taken by rising numbers; each is made MUTE and stays so,"
                + " if the PART does not FIT still; otherwise it is not.",
                "Those of them that are not MUTE in the end are the CORE.", "A set is the sum of 2^k for each number k.");
        says(33, "- `part`: a THING, or -1 for all CALLS", "Returns the set of the CORE of the PART; 0, if it FITS.",
                "Throws `IndexOutOfBoundsException` if part is not -1, and there is no such THING");
        is(play(REGISTER, "0:READ=0").core(0), 0);
        is(play(REGISTER, "0:READ=1").core(0), 1);
        // of two, each of which is wrong, the first one becomes MUTE
        is(play(REGISTER, "0:READ=1 0:READ=2").core(0), 2);
        is(play(REGISTER, "0:READ=1 0:READ=0").core(0), 1);
        is(play(REGISTER, "0:READ=0 0:READ=1").core(0), 2);
        // of two that cannot both be, neither can be MUTE
        is(play(QUEUE, "0:PUT1=0 1[TAKE 2[TAKE 1]1 2]1").core(0), 2 + 4);
        is(play(LOCK, "0[TAKE 1[TAKE 2[TAKE 0]1 1]1 2]0").core(0), 1 + 2);
        // of three that cannot all be
        is(play(LOCK, "0[TAKE 1[TAKE 2[TAKE 0]0 1]0 2]0").core(0), 1 + 2 + 4);
        // one that HANGS is never of the CORE, and may still stand or not
        is(play(REGISTER, "0[WRITE1 1:READ=2").core(0), 2);
        is(play(REGISTER, "0[WRITE1 1:READ=1 1:READ=0").core(0), 2 + 4);
        is(play(REGISTER, "0[WRITE1 1:READ=0 1:READ=1").core(0), 0);
        // the last one of nine
        is(play(REGISTER, "0:READ=0 0:READ=0 0:READ=0 0:READ=0 0:READ=0 0:READ=0 0:READ=0 0:READ=0 0:READ=1").core(0), 256);
        is(play(REGISTER, "0:READ=1 0:READ=1 0:READ=1 0:READ=1 0:READ=1 0:READ=1 0:READ=1 0:READ=1 0:READ=1").core(-1), 256);
        // numbers are those of all CALLS, and each PART has its own CORE
        Callorder b = play(things(REGISTER, SET, SET), "0:READ=7 0:1.HAS1=1 0:2.HAS1=0");
        is(b.core(0), 1);
        is(b.core(1), 2);
        is(b.core(2), 0);
        is(b.core(-1), 2);
        refuses(INDEX, () -> with(REGISTER), x -> x.core(1));
        refuses(INDEX, () -> with(REGISTER), x -> x.core(-2));
    }
}
