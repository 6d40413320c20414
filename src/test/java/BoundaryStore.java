import java.util.function.Supplier;

/** The boundaries of == 9 and of the promises 11 to 18: the STORE, its COPIES, STAMPS and MESSAGES. */
final class BoundaryStore extends Boundary {
    private static final String NINE = "0:READ=0 1:READ=0 2:READ=0 0:READ=0 1:READ=0 2:READ=0 0:READ=0 1:READ=0 2:READ=0";
    private static final String EIGHT = "0:READ=0 1:READ=0 2:READ=0 0:READ=0 1:READ=0 2:READ=0 0:READ=0 1:READ=0";

    private BoundaryStore() {
    }

    static void all() {
        atFirst();
        later();
        sameStamp();
        onlyWhileARegister();
        toWrite();
        toRead();
        calls();
        atMostEightMessages();
        delivered();
        lost();
        doubled();
        nothingElse();
        write();
        read();
        deliver();
        lose();
        repeat();
        ofCopy();
        ofMessage();
        spread();
    }

    private static void copy(Callorder b, int copy, int value, int count, int origin) {
        is(b.ofCopy(copy, 0), value);
        is(b.ofCopy(copy, 1), count);
        is(b.ofCopy(copy, 2), origin);
    }

    /** The row of MESSAGES: of each the COPY that it goes to, VALUE, COUNT and COPY of its STAMP. */
    private static void messages(Callorder b, String due) {
        StringBuilder out = new StringBuilder();
        for (int message = 0; message < b.bench(4); message++) {
            out.append(message == 0 ? "" : " ");
            for (int what = 0; what <= 3; what++) {
                out.append(b.ofMessage(message, what)).append(what == 3 ? "" : ",");
            }
        }
        is(out.toString(), due);
    }

    /** A bench on which so many MESSAGES are, all of the COPY 0 to the COPY 1 or 2, and one CALL. */
    private static Callorder holding(int many) {
        Callorder b = with(REGISTER);
        b.write(0, 9);
        while (b.bench(4) < many) {
            b.repeat(b.bench(4) % 2);
        }
        while (b.bench(4) > many) {
            b.lose(0);
        }
        return b;
    }

    private static void atFirst() {
        says("The STORE has three COPIES, 0 to 2, each with a VALUE (0 at first) and a STAMP (a COUNT and a COPY; COUNT 0 and COPY 0 at first).");
        for (int copy = 0; copy <= 2; copy++) {
            copy(new Callorder(), copy, 0, 0, 0);
            is(with(REGISTER).read(copy), 0);
        }
        is(new Callorder().bench(4), 0);
        is(new Callorder().spread(), 1);
    }

    private static void later() {
        says("One STAMP is later than another one, if its COUNT is greater, or is the same and its COPY greater.");
        // the same COUNT: of COPY 1 and COPY 2 that of 2 is later, whichever comes first
        Callorder b = with(REGISTER);
        b.write(1, 5);
        b.write(2, 6);
        messages(b, "0,5,1,1 2,5,1,1 0,6,1,2 1,6,1,2");
        is(b.deliver(1), false);
        copy(b, 2, 6, 1, 2);
        is(b.deliver(2), true);
        copy(b, 1, 6, 1, 2);
        is(b.deliver(0), true);
        copy(b, 0, 5, 1, 1);
        is(b.deliver(0), true);
        copy(b, 0, 6, 1, 2);
        Callorder c = with(REGISTER);
        c.write(1, 5);
        c.write(2, 6);
        is(c.deliver(2), true);
        is(c.deliver(0), false);
        copy(c, 0, 6, 1, 2);
        // the COUNT is greater by 1, though its COPY is smaller
        Callorder d = with(REGISTER);
        d.write(2, 7);
        d.write(0, 3);
        d.write(0, 4);
        messages(d, "0,7,1,2 1,7,1,2 1,3,1,0 2,3,1,0 1,4,2,0 2,4,2,0");
        is(d.deliver(5), true);
        copy(d, 2, 4, 2, 0);
        is(d.deliver(3), false);
        copy(d, 2, 4, 2, 0);
        is(d.deliver(0), false);
        copy(d, 0, 4, 2, 0);
        // to COPY 1: first that of COPY 0, then that of COPY 2 with the same COUNT, then the greater COUNT
        messages(d, "1,7,1,2 1,3,1,0 1,4,2,0");
        is(d.deliver(1), true);
        copy(d, 1, 3, 1, 0);
        is(d.deliver(0), true);
        copy(d, 1, 7, 1, 2);
        is(d.deliver(0), true);
        copy(d, 1, 4, 2, 0);
    }

    private static void sameStamp() {
        says("if its STAMP is later than that of the COPY it came to, VALUE and STAMP there become its own; otherwise nothing does.");
        // the same STAMP is not later than itself
        Callorder b = with(REGISTER);
        b.write(0, 8);
        b.repeat(0);
        messages(b, "1,8,1,0 2,8,1,0 1,8,1,0");
        is(b.deliver(0), true);
        copy(b, 1, 8, 1, 0);
        is(b.deliver(1), false);
        copy(b, 1, 8, 1, 0);
        messages(b, "2,8,1,0");
    }

    private static void onlyWhileARegister() {
        says("Only while the THING 0 is a REGISTER one can WRITE or READ at a COPY; all else of the STORE goes always.");
        for (int copy = 0; copy <= 2; copy++) {
            int c = copy;
            is(with(REGISTER).write(copy, 5), 1);
            is(with(REGISTER, QUEUE).read(copy), 0);
            refuses(STATE, Callorder::new, x -> x.write(c, 5));
            refuses(STATE, Callorder::new, x -> x.read(c));
            for (int kind = 1; kind <= 6; kind++) {
                int k = kind;
                refuses(STATE, () -> with(k, REGISTER), x -> x.write(c, 5));
                refuses(STATE, () -> with(k, REGISTER), x -> x.read(c));
            }
            // no longer there
            refuses(STATE, () -> after(with(REGISTER), x -> x.wipe(true)), x -> x.write(c, 5));
            refuses(STATE, () -> after(with(REGISTER), x -> x.wipe(true)), x -> x.read(c));
        }
        is(after(with(REGISTER), x -> x.wipe(false)).write(1, 5), 1);
        Callorder b = holding(2);
        b.wipe(true);
        is(b.repeat(0), 3);
        is(b.ofMessage(2, 0), 1);
        is(b.lose(2), 2);
        is(b.spread(), 1);
        is(b.deliver(0), true);
        copy(b, 1, 9, 1, 0);
        is(b.spread(), 1);
    }

    private static void toWrite() {
        says("To WRITE a VALUE at a COPY: its STAMP becomes its COUNT + 1 and the COPY itself, its VALUE that; a MESSAGE with both goes to each"
                + " of the two other COPIES (the smaller one first).");
        String[] due = {"1,5,1,0 2,5,1,0", "0,5,1,1 2,5,1,1", "0,5,1,2 1,5,1,2"};
        for (int copy = 0; copy <= 2; copy++) {
            Callorder b = with(REGISTER);
            is(b.write(copy, 5), 1);
            copy(b, copy, 5, 1, copy);
            messages(b, due[copy]);
            for (int other = 0; other <= 2; other++) {
                if (other != copy) {
                    copy(b, other, 0, 0, 0);
                }
            }
            is(b.write(copy, 5), 2);
            copy(b, copy, 5, 2, copy);
        }
        // its own COUNT + 1, whosever it was: taken over from another COPY
        Callorder c = with(REGISTER);
        c.write(2, 1);
        c.write(2, 2);
        c.write(2, 3);
        is(c.deliver(4), true);
        copy(c, 0, 3, 3, 2);
        is(c.write(0, 4), 4);
        copy(c, 0, 4, 4, 0);
        c.lose(0);
        is(c.write(1, 4), 1);
        copy(c, 1, 4, 1, 1);
    }

    private static void toRead() {
        says("To READ at a COPY tells its VALUE.");
        Callorder b = with(REGISTER);
        b.write(1, 9);
        is(b.read(1), 9);
        is(b.read(0), 0);
        is(b.read(2), 0);
        b.deliver(1);
        is(b.read(2), 9);
        is(b.read(0), 0);
    }

    private static void calls() {
        says("The THREAD with the number of the COPY calls WRITE (ANSWER 0), or READ (ANSWER what was told), on the THING 0; the CALL ends as soon"
                + " as it began.");
        Callorder b = play(things(REGISTER, REGISTER), "0[1.READ");
        b.write(2, 9);
        b.read(2);
        b.read(1);
        is(Scene.texts(b), "T0 REGISTER1.READ() = ? / T2 REGISTER0.WRITE(9) = 0 / T2 REGISTER0.READ() = 9 / T1 REGISTER0.READ() = 0");
        int[][] told = {{2, 0, 0, 9, 1, 2, 0}, {2, 0, 1, 0, 3, 4, 9}, {1, 0, 1, 0, 5, 6, 0}};
        for (int call = 0; call < 3; call++) {
            for (int what = 0; what <= 6; what++) {
                is(b.ofCall(call + 1, what), told[call][what]);
            }
        }
        is(b.drawn(0), "[------");
        is(b.drawn(1), ".....[]");
        is(b.drawn(2), ".[][]..");
    }

    private static void atMostEightMessages() {
        says("MESSAGES: a row of at most 8, at places from 0 on, in the order in which they were sent.");
        // WRITE sends two: the last number that lets it is 6, the first one that does not is 7
        for (int copy = 0; copy <= 2; copy++) {
            int c = copy;
            for (int many = 0; many <= 6; many++) {
                Callorder b = holding(many);
                is(b.write(copy, 3), copy == 0 ? 2 : 1);
                is(b.bench(4), many + 2);
                is(b.ofMessage(many, 0), copy == 0 ? 1 : 0);
                is(b.ofMessage(many + 1, 0), copy == 2 ? 1 : 2);
                is(b.ofMessage(many, 1), 3);
                is(b.ofMessage(many + 1, 1), 3);
            }
            refuses(STATE, () -> holding(7), x -> x.write(c, 3));
            refuses(STATE, () -> holding(8), x -> x.write(c, 3));
        }
        // DOUBLING sends one: the last number is 7, the first one that does not is 8
        for (int many = 1; many <= 7; many++) {
            is(holding(many).repeat(0), many + 1);
            is(holding(many).repeat(many - 1), many + 1);
        }
        for (int message = 0; message <= 7; message++) {
            int m = message;
            refuses(STATE, () -> holding(8), x -> x.repeat(m));
        }
        // to READ sends none: it goes with 8
        is(holding(8).read(0), 9);
        // with one gone there is room for one again, with two for two
        Callorder b = holding(8);
        b.deliver(7);
        is(b.bench(4), 7);
        is(b.repeat(0), 8);
        b.lose(0);
        b.lose(0);
        is(b.write(0, 1), 2);
        is(b.bench(4), 8);
    }

    private static void delivered() {
        says("One that is DELIVERED goes out of the row, those behind it move up;");
        for (int message = 0; message <= 7; message++) {
            Callorder b = unlike();
            String[] all = "1,1,1,0 2,1,1,0 1,2,2,0 2,2,2,0 1,3,3,0 2,3,3,0 1,4,4,0 2,4,4,0".split(" ");
            messages(b, String.join(" ", all));
            is(b.deliver(message), true);
            copy(b, 1 + message % 2, 1 + message / 2, 1 + message / 2, 0);
            copy(b, 2 - message % 2, 0, 0, 0);
            messages(b, without(all, message));
        }
    }

    /** A bench with 8 MESSAGES, no two alike. */
    private static Callorder unlike() {
        Callorder b = with(REGISTER);
        for (int value = 1; value <= 4; value++) {
            b.write(0, value);
        }
        return b;
    }

    private static String without(String[] all, int place) {
        StringBuilder out = new StringBuilder();
        for (int i = 0; i < all.length; i++) {
            if (i != place) {
                out.append(out.length() == 0 ? "" : " ").append(all[i]);
            }
        }
        return out.toString();
    }

    private static void lost() {
        says("One that is LOST goes out of the row.");
        for (int message = 0; message <= 7; message++) {
            Callorder b = unlike();
            String[] all = "1,1,1,0 2,1,1,0 1,2,2,0 2,2,2,0 1,3,3,0 2,3,3,0 1,4,4,0 2,4,4,0".split(" ");
            is(b.lose(message), 7);
            messages(b, without(all, message));
            copy(b, 1, 0, 0, 0);
            copy(b, 2, 0, 0, 0);
        }
        // the only one
        Callorder b = holding(1);
        is(b.lose(0), 0);
        messages(b, "");
    }

    private static void doubled() {
        says("One that is DOUBLED comes once more at the end of the row.");
        for (int message = 0; message <= 5; message++) {
            Callorder b = unlike();
            b.lose(7);
            b.lose(6);
            String[] all = "1,1,1,0 2,1,1,0 1,2,2,0 2,2,2,0 1,3,3,0 2,3,3,0".split(" ");
            is(b.repeat(message), 7);
            messages(b, String.join(" ", all) + " " + all[message]);
            is(b.repeat(6), 8);
            messages(b, String.join(" ", all) + " " + all[message] + " " + all[message]);
        }
    }

    private static void nothingElse() {
        says("(Nothing else changes the STORE, neither tapes and trials, nor wipe().)");
        Callorder b = with(REGISTER);
        b.write(2, 6);
        b.write(1, 5);
        b.step(0, 0, 0, 1);
        b.tape(0, 5);
        b.tape(1, 5);
        b.trial(REGISTER, 1, 5);
        b.retell(0, 5);
        b.forget(0);
        b.found(1, 1, 8);
        b.wipe(false);
        b.call(1, 0, 0, 9, 0);
        b.wipe(true);
        b.thing(REGISTER);
        b.knock();
        messages(b, "0,6,1,2 1,6,1,2 0,5,1,1 2,5,1,1");
        copy(b, 0, 0, 0, 0);
        copy(b, 1, 5, 1, 1);
        copy(b, 2, 6, 1, 2);
        is(b.bench(1), 0);
        // and a CALL that begins on the REGISTER is none of the STORE
        b.call(0, 0, 0, 9, 0);
        is(b.read(0), 0);
    }

    private static void write() {
        says(11, "WRITES at a COPY.", "- `copy`: a COPY", "- `value`: the VALUE", "Returns the COUNT of its STAMP then.",
                "Throws `IndexOutOfBoundsException` if copy is not 0 to 2", "Throws `IllegalArgumentException` if value is not 1 to 9",
                "Throws `IllegalStateException` if the THING 0 is not there or no REGISTER, a CALL of that THREAD HANGS, there are 9 CALLS,"
                + " or there are more than 6 MESSAGES");
        for (int value = 1; value <= 9; value++) {
            Callorder b = with(REGISTER);
            is(b.write(1, value), 1);
            is(b.ofCopy(1, 0), value);
            is(b.ofCall(0, 3), value);
        }
        for (Supplier<Callorder> made : benches(() -> with(REGISTER), Callorder::new, () -> holding(8))) {
            for (int copy : new int[] {-1, 3, Integer.MIN_VALUE, Integer.MAX_VALUE}) {
                refuses(INDEX, made, x -> x.write(copy, 5));
                refuses(INDEX, made, x -> x.write(copy, 0));
            }
            for (int value : new int[] {0, 10, -1, Integer.MIN_VALUE, Integer.MAX_VALUE}) {
                for (int copy = 0; copy <= 2; copy++) {
                    int c = copy;
                    refuses(ARGUMENT, made, x -> x.write(c, value));
                }
            }
        }
        refuses(STATE, Callorder::new, x -> x.write(0, 5));
        refuses(STATE, () -> with(CELL), x -> x.write(0, 5));
        refuses(STATE, () -> play(REGISTER, "1[READ"), x -> x.write(1, 5));
        is(play(REGISTER, "1[READ").write(0, 5), 1);
        is(play(REGISTER, "1[READ").write(2, 5), 1);
        is(play(REGISTER, "1[READ 1]0").write(1, 5), 1);
        refuses(STATE, () -> play(REGISTER, NINE), x -> x.write(1, 5));
        is(play(REGISTER, EIGHT).write(1, 5), 1);
        refuses(STATE, () -> holding(7), x -> x.write(1, 5));
        is(holding(6).write(1, 5), 1);
    }

    private static void read() {
        says(12, "READS at a COPY.", "- `copy`: a COPY", "Returns its VALUE.", "Throws `IndexOutOfBoundsException` if copy is not 0 to 2",
                "Throws `IllegalStateException` if the THING 0 is not there or no REGISTER, a CALL of that THREAD HANGS, or there are 9 CALLS");
        for (Supplier<Callorder> made : benches(() -> with(REGISTER), Callorder::new, () -> play(REGISTER, NINE))) {
            for (int copy : new int[] {-1, 3, Integer.MIN_VALUE, Integer.MAX_VALUE}) {
                refuses(INDEX, made, x -> x.read(copy));
            }
        }
        refuses(STATE, Callorder::new, x -> x.read(0));
        refuses(STATE, () -> with(CELL), x -> x.read(0));
        refuses(STATE, () -> play(REGISTER, "1[READ"), x -> x.read(1));
        is(play(REGISTER, "1[READ").read(0), 0);
        is(play(REGISTER, "1[READ 1]0").read(1), 0);
        refuses(STATE, () -> play(REGISTER, NINE), x -> x.read(1));
        is(play(REGISTER, EIGHT).read(1), 0);
        // 7 or 8 MESSAGES are no matter to it
        is(holding(7).read(0), 9);
        is(holding(8).read(1), 0);
    }

    /** No MESSAGE is at these places. */
    private static void noMessage(java.util.function.IntFunction<java.util.function.Function<Callorder, Object>> by) {
        for (int many = 0; many <= 8; many++) {
            int m = many;
            for (int no : new int[] {-1, many, Integer.MIN_VALUE, Integer.MAX_VALUE}) {
                refuses(INDEX, () -> holding(m), by.apply(no));
            }
        }
        refuses(INDEX, Callorder::new, by.apply(0));
    }

    private static void deliver() {
        says(13, "DELIVERS a MESSAGE.", "- `message`: a place in the row of MESSAGES", "Returns whether VALUE and STAMP became its own.",
                "Throws `IndexOutOfBoundsException` if no MESSAGE is there");
        noMessage(no -> x -> x.deliver(no));
        for (int many = 1; many <= 8; many++) {
            Callorder b = holding(many);
            is(b.deliver(many - 1), true);
            is(b.bench(4), many - 1);
            is(holding(many).deliver(0), true);
        }
        // it is no CALL, and no MOMENT
        Callorder b = holding(2);
        b.deliver(0);
        is(b.bench(1), 1);
        is(b.bench(3), 2);
    }

    private static void lose() {
        says(14, "A MESSAGE is LOST.", "- `message`: a place in the row of MESSAGES", "Returns how many MESSAGES are left.",
                "Throws `IndexOutOfBoundsException` if no MESSAGE is there");
        noMessage(no -> x -> x.lose(no));
        for (int many = 1; many <= 8; many++) {
            is(holding(many).lose(many - 1), many - 1);
            is(holding(many).lose(0), many - 1);
        }
    }

    private static void repeat() {
        says(15, "A MESSAGE is DOUBLED.", "- `message`: a place in the row of MESSAGES", "Returns how many MESSAGES there are then.",
                "Throws `IndexOutOfBoundsException` if no MESSAGE is there", "Throws `IllegalStateException` if there are 8");
        noMessage(no -> x -> x.repeat(no));
        is(holding(7).repeat(6), 8);
        refuses(STATE, () -> holding(8), x -> x.repeat(0));
        refuses(STATE, () -> holding(8), x -> x.repeat(7));
        refuses(INDEX, () -> holding(8), x -> x.repeat(8));
        refuses(INDEX, () -> holding(8), x -> x.repeat(-1));
    }

    private static void ofCopy() {
        says(16, "- `copy`: a COPY", "- `what`: 0 VALUE, 1 COUNT of its STAMP, 2 COPY of its STAMP", "Returns that.",
                "Throws `IndexOutOfBoundsException` if copy is not 0 to 2", "Throws `IllegalArgumentException` if what is not 0 to 2");
        Callorder b = with(REGISTER);
        b.write(2, 8);
        b.write(2, 7);
        b.deliver(3);
        copy(b, 0, 0, 0, 0);
        copy(b, 1, 7, 2, 2);
        copy(b, 2, 7, 2, 2);
        for (int copy : new int[] {-1, 3, Integer.MIN_VALUE, Integer.MAX_VALUE}) {
            refuses(INDEX, () -> holding(2), x -> x.ofCopy(copy, 0));
            refuses(INDEX, () -> holding(2), x -> x.ofCopy(copy, 3));
        }
        for (int what : new int[] {-1, 3, Integer.MIN_VALUE, Integer.MAX_VALUE}) {
            for (int copy = 0; copy <= 2; copy++) {
                int c = copy;
                refuses(ARGUMENT, () -> holding(2), x -> x.ofCopy(c, what));
            }
        }
    }

    private static void ofMessage() {
        says(17, "- `message`: a place in the row of MESSAGES",
                "- `what`: 0 the COPY that it goes to, 1 VALUE, 2 COUNT of its STAMP, 3 COPY of its STAMP", "Returns that.",
                "Throws `IndexOutOfBoundsException` if no MESSAGE is there", "Throws `IllegalArgumentException` if what is not 0 to 3");
        Callorder b = with(REGISTER);
        b.write(2, 8);
        b.write(2, 7);
        messages(b, "0,8,1,2 1,8,1,2 0,7,2,2 1,7,2,2");
        noMessage(no -> x -> x.ofMessage(no, 0));
        noMessage(no -> x -> x.ofMessage(no, 4));
        for (int what : new int[] {-1, 4, Integer.MIN_VALUE, Integer.MAX_VALUE}) {
            refuses(ARGUMENT, () -> holding(2), x -> x.ofMessage(0, what));
            refuses(ARGUMENT, () -> holding(2), x -> x.ofMessage(1, what));
        }
        // what a MESSAGE tells stays as it was sent
        b.write(2, 6);
        b.wipe(true);
        messages(b, "0,8,1,2 1,8,1,2 0,7,2,2 1,7,2,2 0,6,3,2 1,6,3,2");
    }

    private static void spread() {
        says(18, "Returns how many unlike VALUES the COPIES would have, if all MESSAGES were DELIVERED, place by place.");
        is(new Callorder().spread(), 1);
        Callorder b = with(REGISTER);
        b.write(0, 5);
        is(b.spread(), 1);
        b.lose(0);
        is(b.spread(), 2);
        b.lose(0);
        is(b.spread(), 2);
        b.write(1, 6);
        // to 0 comes 6 (of the later STAMP), to 2 as well
        is(b.spread(), 1);
        b.lose(0);
        b.lose(0);
        // 5, 6 and 0
        is(b.spread(), 3);
        b.write(2, 6);
        b.lose(0);
        b.lose(0);
        // 5, 6 and 6
        is(b.spread(), 2);
        // the same VALUE of unlike STAMPS is no unlike VALUE
        Callorder c = with(REGISTER);
        c.write(0, 5);
        c.write(1, 5);
        c.write(2, 5);
        is(c.spread(), 1);
        while (c.bench(4) > 0) {
            c.lose(0);
        }
        is(c.spread(), 1);
        // a MESSAGE that is not later changes nothing: 0 keeps its own
        Callorder d = with(REGISTER);
        d.write(0, 5);
        d.write(0, 4);
        d.write(1, 6);
        d.lose(5);
        d.lose(3);
        d.lose(1);
        messages(d, "1,5,1,0 1,4,2,0 0,6,1,1");
        is(d.spread(), 2);
        // nothing is delivered by it
        leaves(() -> holding(8), x -> x.spread());
        leaves(() -> unlike(), x -> x.spread());
    }
}
