import java.util.function.Supplier;

/** The boundaries of == 1 and of the promises 1, 2 and 19: THINGS, and what the OPS of each KIND take and answer. */
final class BoundaryThings extends Boundary {
    private static final int[] OPS = {2, 2, 2, 3, 2, 2, 3};

    private BoundaryThings() {
    }

    static void all() {
        aNewObject();
        atMostFourThings();
        kinds();
        noUseForAValue();
        register();
        queue();
        stack();
        set();
        counter();
        lock();
        cell();
        whatCanChange();
    }

    private static void aNewObject() {
        says(1, "Creates a bench without THINGS and CALLS, and a PROGRAM without STEPS.");
        Callorder b = new Callorder();
        for (int what = 0; what <= 5; what++) {
            is(b.bench(what), 0);
        }
        for (int part = 0; part <= 2; part++) {
            is(b.steps(part), 0);
        }
        refuses(INDEX, Callorder::new, x -> x.kindOf(0));
        refuses(INDEX, Callorder::new, x -> x.ofCall(0, 0));
        refuses(INDEX, Callorder::new, x -> x.ofStep(0, 0, 0));
        refuses(INDEX, Callorder::new, x -> x.ofMessage(0, 0));
        is(new Callorder().digest(), b.digest());
    }

    private static void atMostFourThings() {
        says("There are at most 4 THINGS, numbered from 0, each of a KIND, and with a STATE as it begins.");
        for (int kind = 0; kind <= 6; kind++) {
            Callorder b = new Callorder();
            for (int number = 0; number < 4; number++) {
                is(b.bench(0), number);
                is(b.thing(kind), number);
            }
            is(b.bench(0), 4);
            int k = kind;
            refuses(STATE, () -> with(k, k, k, k), x -> x.thing(k));
        }
        says(2, "A THING comes.", "- `kind`: its KIND", "Returns its number.",
                "Throws `IllegalArgumentException` if kind is not 0 to 6", "Throws `IllegalStateException` if there are 4");
        is(with().thing(0), 0);
        is(with().thing(6), 0);
        is(with(6, 6, 6).thing(6), 3);
        for (Supplier<Callorder> made : benches(() -> with(), () -> with(1, 2, 3), () -> with(1, 2, 3, 4))) {
            refuses(ARGUMENT, made, x -> x.thing(-1));
            refuses(ARGUMENT, made, x -> x.thing(7));
            for (int far : Check.FAR_OFF) {
                refuses(ARGUMENT, made, x -> x.thing(far));
            }
        }
        refuses(STATE, () -> with(1, 2, 3, 4), x -> x.thing(0));
        refuses(STATE, () -> with(1, 2, 3, 4), x -> x.thing(6));
        // four go again, when the four went, and not when only the calls did
        refuses(STATE, () -> after(with(0, 0, 0, 0), x -> x.wipe(false)), x -> x.thing(1));
        Callorder again = with(0, 0, 0, 0);
        again.wipe(true);
        is(again.thing(3), 0);
        is(again.kindOf(0), 3);
    }

    private static void kinds() {
        says(19, "- `thing`: a THING", "Returns its KIND.", "Throws `IndexOutOfBoundsException` if there is no such THING");
        for (int kind = 0; kind <= 6; kind++) {
            Callorder b = with(6 - kind, kind, 6, kind);
            is(b.kindOf(0), 6 - kind);
            is(b.kindOf(1), kind);
            is(b.kindOf(2), 6);
            is(b.kindOf(3), kind);
        }
        for (int many = 0; many <= 4; many++) {
            int things = many;
            Supplier<Callorder> made = () -> with(new int[things]);
            refuses(INDEX, made, x -> x.kindOf(things));
            refuses(INDEX, made, x -> x.kindOf(-1));
            if (many > 0) {
                is(made.get().kindOf(many - 1), 0);
            }
        }
        for (int far : Check.FAR_OFF) {
            refuses(INDEX, () -> with(1, 1), x -> x.kindOf(far));
        }
    }

    private static void noUseForAValue() {
        says("What an OP with a VALUE (0, if the OP has no use for one) does, and what it ANSWERS, by KIND:");
        int[][] useless = {{REGISTER, 1}, {QUEUE, 1}, {STACK, 1}, {COUNTER, 1}, {LOCK, 0}, {LOCK, 1}, {CELL, 1}};
        for (int[] one : useless) {
            takes(one[0], one[1], 0, 0);
        }
        // no OP beside those of the KIND
        for (int kind = 0; kind <= 6; kind++) {
            for (int op : new int[] {-1, OPS[kind], Integer.MIN_VALUE, Integer.MAX_VALUE}) {
                for (int value = 0; value <= 1; value++) {
                    int k = kind;
                    int v = value;
                    refuses(ARGUMENT, () -> with(k), x -> x.begin(0, 0, op, v));
                    refuses(ARGUMENT, () -> with(k), x -> x.call(0, 0, op, v, 0));
                }
            }
        }
    }

    /** An OP takes just these VALUES, begun or called. */
    private static void takes(int kind, int op, int least, int most) {
        for (int value = least; value <= most; value++) {
            Callorder b = with(kind);
            is(b.begin(0, 0, op, value), 0);
            is(b.call(1, 0, op, value, 0), 1);
            is(b.ofCall(0, 3), value);
            is(b.ofCall(1, 3), value);
        }
        for (int value : new int[] {least - 1, most + 1, Integer.MIN_VALUE, Integer.MAX_VALUE}) {
            refuses(ARGUMENT, () -> with(kind), x -> x.begin(0, 0, op, value));
            refuses(ARGUMENT, () -> with(kind), x -> x.call(0, 0, op, value, 0));
        }
    }

    /** Of a row of CALLS, one behind the other, each is answered just what stands there, and none else of 0 to 99. */
    private static void tells(int kind, String calls) {
        String[] all = calls.split(" ");
        StringBuilder told = new StringBuilder();
        for (int last = 0; last < all.length; last++) {
            told.append(all[last]).append(' ');
            Callorder b = play(kind, told.toString());
            int due = b.ofCall(last, 6);
            for (int answer = 0; answer <= 99; answer++) {
                is(b.wouldFit(last, answer), answer == due);
            }
            is(b.fits(0), true);
        }
    }

    private static void register() {
        says("0 REGISTER (it holds 0): OP 0 WRITE (VALUE 1 to 9): it holds that; ANSWERS 0.", "OP 1 READ: what it holds.");
        takes(REGISTER, 0, 1, 9);
        tells(REGISTER, "0:READ=0 1:WRITE1=0 0:READ=1 1:READ=1 2:WRITE9=0 0:READ=9 0:WRITE9=0 1:READ=9 0:READ=9");
        for (int value = 1; value <= 9; value++) {
            is(play(REGISTER, "0:WRITE" + value + "=0 1:READ=" + value).behind(0, 2), Integer.toString(value));
        }
        is(play(REGISTER, "").behind(0, 0), "0");
    }

    private static void queue() {
        says("1 QUEUE (empty): OP 0 PUT (1 to 9): at the back; ANSWERS 0.",
                "OP 1 TAKE: takes off the front and ANSWERS it; 0, if it is empty.");
        takes(QUEUE, 0, 1, 9);
        tells(QUEUE, "0:TAKE=0 0:PUT1=0 1:PUT9=0 2:PUT2=0 0:TAKE=1 1:TAKE=9 0:TAKE=2 0:TAKE=0 2:TAKE=0");
        // one more than is within, and one fewer
        tells(QUEUE, "0:PUT9=0 0:TAKE=9 0:TAKE=0 0:PUT9=0 0:PUT9=0 0:TAKE=9 0:TAKE=9 0:TAKE=0 0:PUT3=0");
        // as full as it can be
        Callorder full = play(QUEUE, "0:PUT9=0 0:PUT9=0 0:PUT8=0 0:PUT9=0 0:PUT1=0 0:PUT9=0 0:PUT9=0 0:PUT9=0 0:PUT7=0");
        is(full.behind(0, 9), "9 9 8 9 1 9 9 9 7");
        is(full.behind(0, 8), "9 9 8 9 1 9 9 9");
        is(full.behind(0, 0), "");
        is(full.fits(0), true);
    }

    private static void stack() {
        says("2 STACK (empty): OP 0 PUT (1 to 9): on top; ANSWERS 0.",
                "OP 1 TAKE: takes off the top and ANSWERS it; 0, if it is empty.");
        takes(STACK, 0, 1, 9);
        tells(STACK, "0:TAKE=0 0:PUT1=0 1:PUT9=0 2:PUT2=0 0:TAKE=2 1:TAKE=9 0:TAKE=1 0:TAKE=0 2:TAKE=0");
        tells(STACK, "0:PUT9=0 0:TAKE=9 0:TAKE=0 0:PUT9=0 0:PUT8=0 0:TAKE=8 0:PUT1=0 0:TAKE=1 0:TAKE=9");
        Callorder full = play(STACK, "0:PUT9=0 0:PUT9=0 0:PUT8=0 0:PUT9=0 0:PUT1=0 0:PUT9=0 0:PUT9=0 0:PUT9=0 0:PUT7=0");
        is(full.behind(0, 9), "9 9 8 9 1 9 9 9 7");
        is(full.behind(0, 1), "9");
        is(full.behind(0, 0), "");
        is(full.fits(0), true);
    }

    private static void set() {
        says("3 SET (empty): OP 0 ADD (1 to 9): ANSWERS 1, if it was not within, otherwise 0; it is within then.",
                "OP 1 REMOVE (1 to 9): ANSWERS 1, if it was within, otherwise 0; it is not then.",
                "OP 2 HAS (1 to 9): 1, if it is within, otherwise 0.");
        for (int op = 0; op <= 2; op++) {
            takes(SET, op, 1, 9);
        }
        for (int v = 1; v <= 9; v++) {
            int other = v % 9 + 1;
            tells(SET, ("0:HASv=0 0:REMOVEv=0 0:ADDv=1 1:ADDv=0 2:HASv=1 0:HASw=0 0:REMOVEw=0 1:REMOVEv=1 0:HASv=0")
                    .replace("v", "" + v).replace("w", "" + other));
            tells(SET, "0:ADDv=1 0:REMOVEv=1 0:REMOVEv=0 0:ADDv=1 0:ADDw=1 0:REMOVEv=1 0:HASw=1"
                    .replace("v", "" + v).replace("w", "" + other));
        }
        Callorder full = play(SET, "0:ADD9=1 0:ADD8=1 0:ADD7=1 0:ADD6=1 0:ADD5=1 0:ADD4=1 0:ADD3=1 0:ADD2=1 0:ADD1=1");
        is(full.behind(0, 9), "1 2 3 4 5 6 7 8 9");
        is(full.behind(0, 1), "9");
        is(full.behind(0, 0), "");
    }

    private static void counter() {
        says("4 COUNTER (0): OP 0 ADD (1 to 9): it becomes (it + VALUE) % 100; ANSWERS that.", "OP 1 READ: it.");
        takes(COUNTER, 0, 1, 9);
        tells(COUNTER, "0:READ=0 0:ADD1=1 1:READ=1 1:ADD9=10 0:ADD9=19 2:READ=19 2:ADD1=20 0:READ=20 0:READ=20");
        // 9 CALLS can come to 81 only: the % 100 is never seen, as no number above 99 comes to be
        tells(COUNTER, "0:ADD9=9 0:ADD9=18 0:ADD9=27 0:ADD9=36 0:ADD9=45 0:ADD9=54 0:ADD9=63 0:ADD9=72 0:ADD9=81");
        tells(COUNTER, "0:ADD8=8 0:ADD9=17 0:ADD9=26 0:ADD9=35 0:ADD9=44 0:ADD9=53 0:ADD9=62 0:ADD9=71 0:READ=71");
        is(play(COUNTER, "").behind(0, 0), "0");
    }

    private static void lock() {
        says("5 LOCK (free): OP 0 TAKE: if it is free, the THREAD has it, ANSWERS 1; otherwise 0.",
                "OP 1 FREE: if that THREAD has it, it is free, ANSWERS 1; otherwise 0.");
        for (int t = 0; t <= 2; t++) {
            String moves = "t:FREE=0 t:TAKE=1 t:TAKE=0 u:TAKE=0 u:FREE=0 w:FREE=0 t:FREE=1 t:FREE=0 u:TAKE=1";
            tells(LOCK, moves.replace("t", "" + t).replace("u", "" + (t + 1) % 3).replace("w", "" + (t + 2) % 3));
            Callorder b = play(LOCK, "t:FREE=0 t:TAKE=1 t:FREE=1".replace("t", "" + t));
            is(b.behind(0, 0), "free");
            is(b.behind(0, 1), "free");
            is(b.behind(0, 2), "T" + t);
            is(b.behind(0, 3), "free");
        }
    }

    private static void cell() {
        says("6 CELL (it holds 0): OP 0 WRITE (0 to 9): it holds that; ANSWERS 0.",
                "OP 2 SWAP (0 to 99): if it holds VALUE / 10, it holds VALUE % 10 then, ANSWERS 1; otherwise 0.",
                "Whole numbers; what is divided is divided towards 0, and % tells what is left.");
        takes(CELL, 0, 0, 9);
        takes(CELL, 2, 0, 99);
        tells(CELL, "0:READ=0 0:SWAP0=1 1:SWAP9=1 1:READ=9 2:SWAP89=0 0:SWAP90=1 0:READ=0 0:SWAP10=0 0:READ=0");
        tells(CELL, "0:WRITE9=0 0:READ=9 0:SWAP99=1 0:SWAP98=1 0:SWAP87=1 0:SWAP79=1 0:SWAP9=0 0:WRITE0=0 0:READ=0");
        for (int held = 0; held <= 9; held++) {
            for (int value = 0; value <= 99; value += 9) {
                boolean isIt = value / 10 == held;
                tells(CELL, "0:WRITE" + held + "=0 1:SWAP" + value + "=" + (isIt ? 1 : 0) + " 2:READ=" + (isIt ? value % 10 : held));
            }
        }
    }

    /** What another THREAD did by an OP that can CHANGE the THING stands in the view of a THREAD. */
    private static void whatCanChange() {
        says("READ and HAS are the OPS that never CHANGE a THING; all others can CHANGE it.");
        Object[][] seen = {
            {REGISTER, "1:WRITE3=0", "0:READ=3"}, {QUEUE, "1:PUT3=0", "0:TAKE=3"}, {STACK, "1:PUT3=0", "0:TAKE=3"},
            {QUEUE, "1:TAKE=3", "0:PUT3=0 0:TAKE=0"}, {STACK, "1:TAKE=3", "0:PUT3=0 0:TAKE=0"},
            {SET, "1:ADD3=1", "0:HAS3=1"}, {SET, "1:REMOVE3=1", "0:ADD3=1 0:HAS3=0"}, {COUNTER, "1:ADD3=3", "0:READ=3"},
            {LOCK, "1:TAKE=1", "0:TAKE=0"}, {CELL, "1:WRITE3=0", "0:READ=3"}, {CELL, "1:SWAP3=1", "0:READ=3"}};
        for (Object[] one : seen) {
            is(play((int) one[0], one[1] + " " + one[2]).promise(2), true);
            // without that one the THREAD cannot have been answered so
            is(play((int) one[0], (String) one[2]).promise(2), false);
        }
        is(play(LOCK, "1:TAKE=1 1:FREE=1 0:TAKE=0 0:TAKE=1").promise(2), true);
        is(play(LOCK, "1:TAKE=1 0:TAKE=0 0:TAKE=1").promise(2), false);
        // a READ and a HAS leave all as it is, whoever asks
        tells(REGISTER, "0:WRITE4=0 1:READ=4 2:READ=4 0:READ=4");
        tells(SET, "0:ADD4=1 1:HAS4=1 2:HAS5=0 0:HAS4=1 0:HAS5=0");
        tells(COUNTER, "0:ADD4=4 1:READ=4 2:READ=4 0:ADD1=5");
        tells(CELL, "0:WRITE4=0 1:READ=4 2:READ=4 0:SWAP45=1");
    }
}
