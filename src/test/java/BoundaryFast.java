import java.util.function.Supplier;

/** The boundaries of == 4 and of the promises 34 and 35: the FAST ways, and the reasons that they tell. */
final class BoundaryFast extends Boundary {
    private BoundaryFast() {
    }

    static void all() {
        whereThereIsNone();
        fast();
        why();
        registerWay();
        registerReasonOne();
        registerReasonTwo();
        registerReasonThree();
        queueWay();
        unasked();
        twice();
        turned();
        wronglyEmpty();
        set();
        wrongAnswers();
        smallestReason();
        smallestValues();
    }

    /** What the FAST way of a THING tells: the reason and its two values, or three times NONE; and fits() tells the same. */
    private static void told(Callorder b, int thing, int reason, int first, int second) {
        is(b.fast(thing), reason == NONE ? 1 : 0);
        is(b.why(thing, 0), reason);
        is(b.why(thing, 1), first);
        is(b.why(thing, 2), second);
        is(b.fits(thing), reason == NONE);
    }

    private static void told(int kind, String moves, int reason, int first, int second) {
        told(play(kind, moves), 0, reason, first, second);
    }

    private static void right(int kind, String moves) {
        told(play(kind, moves), 0, NONE, NONE, NONE);
    }

    private static void none(Callorder b, int thing) {
        is(b.fast(thing), NONE);
        for (int what = 0; what <= 2; what++) {
            is(b.why(thing, what), NONE);
        }
    }

    private static void whereThereIsNone() {
        says("FAST is told of a THING of three KINDS:");
        for (int kind = 0; kind <= 6; kind++) {
            boolean isThere = kind == REGISTER || kind == QUEUE || kind == SET;
            if (isThere) {
                right(kind, "");
            } else {
                none(with(kind), 0);
            }
        }
        // not of the others, though they do not FIT
        none(play(STACK, "0:TAKE=1"), 0);
        none(play(COUNTER, "0:READ=1"), 0);
        none(play(LOCK, "0:FREE=1"), 0);
        none(play(CELL, "0:READ=1"), 0);
    }

    private static void fast() {
        says(34, "- `thing`: a THING", "Returns FAST: 1 if it FITS by the FAST way, 0 if not; NONE, if there is no FAST way for it.",
                "Throws `IndexOutOfBoundsException` if there is no such THING");
        Callorder b = play(things(REGISTER, REGISTER, REGISTER), "0:WRITE1=0 0:1.READ=1 0[2.READ");
        is(b.fast(0), 1);
        is(b.fast(1), 0);
        is(b.fast(2), NONE);
        for (int many = 0; many <= 4; many++) {
            int things = many;
            for (int no : new int[] {-1, many, Integer.MIN_VALUE, Integer.MAX_VALUE}) {
                refuses(INDEX, () -> with(new int[things]), x -> x.fast(no));
            }
        }
    }

    private static void why() {
        says(35, "- `thing`: a THING", "- `what`: 0 the reason, 1 its first value, 2 its second value",
                "Returns that of the FAST way; NONE, if there is no FAST way, or it FITS by it.",
                "Throws `IndexOutOfBoundsException` if there is no such THING", "Throws `IllegalArgumentException` if what is not 0 to 2");
        Callorder b = play(things(REGISTER, QUEUE, STACK), "0:WRITE4=0 0:WRITE2=0 1:READ=4 1:1.TAKE=9");
        // asked by turns, each tells its own
        for (int turn = 0; turn < 2; turn++) {
            told(b, 0, 3, 2, 4);
            told(b, 1, 1, 9, NONE);
            none(b, 2);
        }
        is(b.why(0, 2), 4);
        is(b.why(1, 1), 9);
        is(b.why(2, 0), NONE);
        is(b.why(0, 1), 2);
        for (int kind = 0; kind <= 6; kind++) {
            int k = kind;
            Supplier<Callorder> made = () -> with(k);
            for (int what : new int[] {-1, 3, Integer.MIN_VALUE, Integer.MAX_VALUE}) {
                refuses(ARGUMENT, made, x -> x.why(0, what));
                refuses(INDEX, made, x -> x.why(1, what));
                refuses(INDEX, made, x -> x.why(-1, what));
            }
            refuses(INDEX, made, x -> x.why(1, 0));
            refuses(INDEX, made, x -> x.why(-1, 2));
        }
        refuses(INDEX, Callorder::new, x -> x.why(0, 0));
    }

    private static void registerWay() {
        says("REGISTER (if none of its CALLS HANGS, and no two WRITES have the same VALUE):");
        none(play(REGISTER, "0[READ"), 0);
        none(play(REGISTER, "0[WRITE1"), 0);
        none(play(REGISTER, "0:WRITE1=0 1:READ=1 2[READ"), 0);
        right(REGISTER, "0[READ 0]0");
        right(REGISTER, "0:WRITE1=0 1:READ=1 2[READ ~2");
        none(play(REGISTER, "0:WRITE1=0 1:WRITE1=0"), 0);
        none(play(REGISTER, "0:WRITE9=0 1:WRITE1=0 1:READ=1 2:WRITE9=0"), 0);
        right(REGISTER, "0:WRITE9=0 1:WRITE1=0 1:READ=1 2:WRITE8=0");
        right(REGISTER, "0:WRITE9=0 1:WRITE1=0 1:READ=1 2:WRITE9=0 ~0");
        // the same VALUE, or one that HANGS, on another THING is no matter
        right(REGISTER, "0:WRITE1=0 1:READ=1 2:READ=1");
        Callorder b = play(things(REGISTER, REGISTER), "0:WRITE1=0 0:1.WRITE1=0 1:READ=1 1:1.READ=1 2[1.READ");
        told(b, 0, NONE, NONE, NONE);
        none(b, 1);
        // all nine VALUES
        right(REGISTER, "0:WRITE1=0 0:WRITE2=0 0:WRITE3=0 0:WRITE4=0 0:WRITE5=0 0:WRITE6=0 0:WRITE7=0 0:WRITE8=0 0:WRITE9=0");
    }

    private static void registerReasonOne() {
        says("It does not FIT just if a READ was ANSWERED what has no WRITE (reason 1), a READ is AHEAD of the WRITE of what it was ANSWERED"
                + " (reason 2), or two CLUSTERS MUST each come ahead of the other (reason 3).");
        for (int answer = 1; answer <= 99; answer++) {
            told(REGISTER, "0:READ=" + answer, 1, answer, NONE);
            if (answer <= 9) {
                right(REGISTER, "0:WRITE" + answer + "=0 0:READ=" + answer);
                right(REGISTER, "0[WRITE" + answer + " 1:READ=" + answer + " 0]0");
            }
        }
        // 0 needs no WRITE
        right(REGISTER, "0:READ=0");
        says("Of reason 1 of REGISTER and QUEUE an ANSWER above 9 is one that has no WRITE or PUT.)");
        told(REGISTER, "0:WRITE1=0 0:READ=10", 1, 10, NONE);
        told(REGISTER, "0:WRITE9=0 0:READ=9 0:READ=10", 1, 10, NONE);
        told(REGISTER, "0:WRITE9=0 0:READ=99", 1, 99, NONE);
        told(REGISTER, "0:READ=99 0:READ=10", 1, 10, NONE);
        // a WRITE on another THING is none
        told(play(things(REGISTER, REGISTER), "0:WRITE5=0 1:1.READ=5"), 1, 1, 5, NONE);
    }

    private static void registerReasonTwo() {
        says("It does not FIT just if a READ was ANSWERED what has no WRITE (reason 1), a READ is AHEAD of the WRITE of what it was ANSWERED"
                + " (reason 2), or two CLUSTERS MUST each come ahead of the other (reason 3).");
        for (int value = 1; value <= 9; value++) {
            // the END of the READ one MOMENT ahead of the BEGIN of the WRITE, and the other way round
            told(REGISTER, "0:READ=v 1:WRITEv=0".replace("v", "" + value), 2, value, NONE);
            right(REGISTER, "0[READ 1[WRITEv 0]v 1]0".replace("v", "" + value));
            // one of two READS
            told(REGISTER, "2:READ=v 0[READ 1[WRITEv 0]v 1]0".replace("v", "" + value), 2, value, NONE);
        }
    }

    private static void registerReasonThree() {
        says("the CLUSTER of a VALUE is its WRITE with all READS that were ANSWERED it; the CLUSTER of 0 is a WRITE that ended ahead of all"
                + " MOMENTS with all READS that were ANSWERED 0. One CLUSTER MUST come ahead of another one, if a CALL of it is AHEAD of one"
                + " of the other.");
        // WRITE 1 is AHEAD of WRITE 2, and that, or its READ, of a READ of 1; one MOMENT, and the other way round
        told(REGISTER, "0:WRITE1=0 0:WRITE2=0 1:READ=1", 3, 1, 2);
        right(REGISTER, "0:WRITE1=0 0[WRITE2 1[READ 0]0 1]1");
        right(REGISTER, "0[WRITE1 1[WRITE2 0]0 1]0 2:READ=1");
        right(REGISTER, "0[WRITE1 1[WRITE2 0]0 1]0 2:READ=2");
        told(REGISTER, "0[WRITE1 1[WRITE2 0]0 1]0 2:READ=2 2:READ=1 0:READ=2", 3, 1, 2);
        told(REGISTER, "0:WRITE1=0 0[WRITE2 2:READ=2 1:READ=1 0]0", 3, 1, 2);
        right(REGISTER, "0:WRITE1=0 0[WRITE2 1:READ=1 2:READ=2 0]0");
        // the greater VALUE ahead: the smaller one is told first all the same
        told(REGISTER, "0:WRITE9=0 0:WRITE2=0 1:READ=9", 3, 2, 9);
        told(REGISTER, "0:WRITE2=0 0:WRITE9=0 1:READ=2", 3, 2, 9);
        // a CLUSTER of one READ and its WRITE lies about the other
        told(REGISTER, "0[WRITE3 1:WRITE4=0 0]0 2:READ=3 2:READ=4 2:READ=3", 3, 3, 4);
        // the CLUSTER of 0 is ahead of each other one, as its WRITE ended ahead of all MOMENTS
        for (int value = 1; value <= 9; value++) {
            told(REGISTER, "0:WRITEv=0 1:READ=0".replace("v", "" + value), 3, 0, value);
            right(REGISTER, "0[WRITEv 1[READ 0]0 1]0".replace("v", "" + value));
            right(REGISTER, "1:READ=0 0:WRITEv=0".replace("v", "" + value));
            told(REGISTER, "0[WRITEv 1:READ=v 2:READ=0 0]0".replace("v", "" + value), 3, 0, value);
            right(REGISTER, "0[WRITEv 2:READ=0 1:READ=v 0]0".replace("v", "" + value));
            for (int other = 1; other <= 9; other++) {
                if (other != value) {
                    told(REGISTER, "0:WRITEv=0 0:WRITEw=0 1:READ=v".replace("v", "" + value).replace("w", "" + other),
                            3, Math.min(value, other), Math.max(value, other));
                }
            }
        }
    }

    private static void queueWay() {
        says("QUEUE (if none of its CALLS HANGS, and no two PUTS have the same VALUE):");
        none(play(QUEUE, "0[TAKE"), 0);
        none(play(QUEUE, "0[PUT1"), 0);
        none(play(QUEUE, "0:PUT1=0 1:TAKE=1 2[TAKE"), 0);
        right(QUEUE, "0[TAKE 0]0");
        right(QUEUE, "0:PUT1=0 1:TAKE=1 2[TAKE ~2");
        none(play(QUEUE, "0:PUT1=0 1:PUT1=0"), 0);
        none(play(QUEUE, "0:PUT9=0 1:TAKE=9 2:PUT9=0"), 0);
        right(QUEUE, "0:PUT9=0 1:TAKE=9 2:PUT8=0");
        right(QUEUE, "0:PUT9=0 1:TAKE=0 2:PUT9=0 ~0");
        Callorder b = play(things(QUEUE, QUEUE), "0:PUT1=0 0:1.PUT1=0 1:TAKE=1 1:1.TAKE=1 2[1.TAKE");
        told(b, 0, NONE, NONE, NONE);
        none(b, 1);
        right(QUEUE, "0:PUT1=0 0:PUT2=0 0:PUT3=0 0:PUT4=0 0:PUT5=0 0:PUT6=0 0:PUT7=0 0:PUT8=0 0:PUT9=0");
    }

    private static void unasked() {
        says("it does not FIT just if a TAKE was ANSWERED a value above 0 that has no PUT, or is AHEAD of the PUT of it (reason 1, UNASKED);");
        for (int answer = 1; answer <= 99; answer++) {
            told(QUEUE, "0:TAKE=" + answer, 1, answer, NONE);
        }
        right(QUEUE, "0:TAKE=0");
        for (int value = 1; value <= 9; value++) {
            right(QUEUE, "0:PUTv=0 1:TAKE=v".replace("v", "" + value));
            // the END of the TAKE one MOMENT ahead of the BEGIN of the PUT, and the other way round
            told(QUEUE, "0:TAKE=v 1:PUTv=0".replace("v", "" + value), 1, value, NONE);
            right(QUEUE, "0[TAKE 1[PUTv 0]v 1]0".replace("v", "" + value));
        }
        told(QUEUE, "0:PUT9=0 0:TAKE=10", 1, 10, NONE);
        told(play(things(QUEUE, QUEUE), "0:PUT5=0 1:1.TAKE=5"), 1, 1, 5, NONE);
    }

    private static void twice() {
        says("two TAKES were ANSWERED the same value above 0 (reason 2, TWICE);");
        for (int value = 1; value <= 9; value++) {
            told(QUEUE, "0:PUTv=0 1:TAKE=v 2:TAKE=v".replace("v", "" + value), 2, value, NONE);
            told(QUEUE, "0:PUTv=0 1[TAKE 2[TAKE 1]v 2]v".replace("v", "" + value), 2, value, NONE);
            right(QUEUE, "0:PUTv=0 1:TAKE=v 2:TAKE=0".replace("v", "" + value));
        }
        // 0 is no value that is taken
        right(QUEUE, "1:TAKE=0 2:TAKE=0");
        // three times, or on another THING
        told(QUEUE, "0:PUT4=0 1:TAKE=4 2:TAKE=4 0:TAKE=4", 2, 4, NONE);
        Callorder b = play(things(QUEUE, QUEUE), "0:PUT4=0 0:1.PUT4=0 1:TAKE=4 2:1.TAKE=4");
        told(b, 0, NONE, NONE, NONE);
        told(b, 1, NONE, NONE, NONE);
    }

    private static void turned() {
        says("the PUT of a is AHEAD of the PUT of b, b was taken, and also (a was not, or the TAKE of b is AHEAD of the TAKE of a)"
                + " (reason 3, TURNED);");
        for (int a = 1; a <= 9; a++) {
            for (int b = 1; b <= 9; b++) {
                if (a != b) {
                    turned(a, b);
                }
            }
        }
        // neither was taken, or only the first one
        right(QUEUE, "0:PUT1=0 0:PUT2=0");
        right(QUEUE, "0:PUT1=0 0:PUT2=0 1:TAKE=1");
        // three in a row
        told(QUEUE, "0:PUT3=0 0:PUT2=0 0:PUT1=0 1:TAKE=3 1:TAKE=1 1:TAKE=2", 3, 2, 1);
    }

    private static void turned(int a, int b) {
        String[] with = {"a", "" + a, "b", "" + b};
        // a was not taken
        told(QUEUE, put("0:PUTa=0 0:PUTb=0 1:TAKE=b", with), 3, a, b);
        // the PUTS overlap by one MOMENT: either may be ahead
        right(QUEUE, put("0[PUTa 1[PUTb 0]0 1]0 2:TAKE=b", with));
        right(QUEUE, put("0[PUTa 1[PUTb 0]0 1]0 2:TAKE=a", with));
        // the TAKE of b is AHEAD of that of a by one MOMENT; the TAKES overlap by one
        told(QUEUE, put("0:PUTa=0 0:PUTb=0 1:TAKE=b 2:TAKE=a", with), 3, a, b);
        right(QUEUE, put("0:PUTa=0 0:PUTb=0 1[TAKE 2[TAKE 1]b 2]a", with));
        right(QUEUE, put("0:PUTa=0 0:PUTb=0 1:TAKE=a 2:TAKE=b", with));
    }

    private static String put(String moves, String[] with) {
        // the letters stand behind PUT, "=" and "]" only
        String text = moves;
        for (int i = 0; i < with.length; i += 2) {
            text = text.replace("PUT" + with[i], "PUT" + with[i + 1]).replace("=" + with[i], "=" + with[i + 1])
                    .replace("]" + with[i], "]" + with[i + 1]);
        }
        return text;
    }

    private static void wronglyEmpty() {
        says("a TAKE was ANSWERED 0, and for each MOMENT p from its BEGIN to the one ahead of its END there is a value whose PUT has an END"
                + " of p or less, and which also (was not taken, or has a TAKE with a BEGIN above p) (reason 4, WRONGLY EMPTY).");
        // the first p is the BEGIN: the PUT ended one MOMENT ahead of it, or one behind it
        told(QUEUE, "0:PUT1=0 1:TAKE=0", 4, 1, NONE);
        right(QUEUE, "0[PUT1 1[TAKE 0]0 1]0");
        // the last p is the MOMENT ahead of the END: the TAKE of the value begins there, or one MOMENT behind the END
        right(QUEUE, "0:PUT1=0 1[TAKE 2[TAKE 1]0 2]1");
        told(QUEUE, "0:PUT1=0 1[TAKE 1]0 2[TAKE 2]1", 4, 1, NONE);
        right(QUEUE, "0:PUT1=0 2[TAKE 1:TAKE=0 2]1");
        told(QUEUE, "0:PUT1=0 1[TAKE 0:TAKE=0 1]0 2:TAKE=1", 4, 1, NONE);
        // two values by turns: the PUT of the second one ends one MOMENT ahead of the BEGIN of the TAKE of the first one, or one behind it
        told(QUEUE, "0:PUT1=0 1[TAKE 0[PUT2 0]0 2[TAKE 2]1 1]0", 4, 1, NONE);
        right(QUEUE, "0:PUT1=0 1[TAKE 0[PUT2 2[TAKE 0]0 2]1 1]0");
        // both taken in the end, the second one behind the TAKE of 0, or while it lasts
        told(QUEUE, "0:PUT1=0 1[TAKE 0:PUT2=0 2:TAKE=1 1]0 2:TAKE=2", 4, 1, NONE);
        right(QUEUE, "0:PUT1=0 1[TAKE 0:PUT2=0 2:TAKE=1 2:TAKE=2 1]0");
        // three by turns
        told(QUEUE, "0:PUT7=0 1[TAKE 0:PUT8=0 2:TAKE=7 0:PUT9=0 2:TAKE=8 1]0", 4, 1, NONE);
        right(QUEUE, "0:PUT7=0 1[TAKE 0:PUT8=0 2:TAKE=7 2:TAKE=8 0:PUT9=0 1]0");
        // nothing was put, or all was taken ahead
        right(QUEUE, "1:TAKE=0");
        right(QUEUE, "0:PUT1=0 1:TAKE=1 1:TAKE=0");
        right(QUEUE, "1:TAKE=0 0:PUT1=0");
        for (int value = 1; value <= 9; value++) {
            told(QUEUE, "0:PUTv=0 1:TAKE=0".replace("v", "" + value), 4, 1, NONE);
        }
        // the number of the TAKE is told, the smallest one of several
        told(QUEUE, "2:TAKE=0 0:PUT1=0 1:TAKE=0 1:TAKE=0", 4, 2, NONE);
        told(QUEUE, "2:TAKE=0 2:TAKE=0 2:TAKE=0 2:TAKE=0 2:TAKE=0 2:TAKE=0 2:TAKE=0 0:PUT1=0 1:TAKE=0", 4, 8, NONE);
        told(play(things(SET, QUEUE), "0:HAS1=0 0:1.PUT1=0 0:HAS1=0 1:1.TAKE=0"), 1, 4, 3, NONE);
    }

    private static void set() {
        says("SET: it does not FIT just if there is a VALUE so that the CALLS with that VALUE alone do not FIT (reason 1).");
        for (int v = 1; v <= 9; v++) {
            for (int answer = 0; answer <= 99; answer++) {
                Callorder b = play(SET, "0:HAS" + v + "=" + answer);
                told(b, 0, answer == 0 ? NONE : 1, answer == 0 ? NONE : v, NONE);
            }
            told(SET, "0:ADDv=0".replace("v", "" + v), 1, v, NONE);
            told(SET, "0:ADDv=1 1:REMOVEv=0".replace("v", "" + v), 1, v, NONE);
        }
        // there is a FAST way though a CALL HANGS, and though a VALUE is added again
        right(SET, "0[ADD3 1:HAS3=1");
        right(SET, "0[ADD3 1:HAS3=0");
        told(SET, "0[ADD3 1:HAS4=1", 1, 4, NONE);
        right(SET, "0:ADD3=1 0:ADD3=0 0:REMOVE3=1 0:ADD3=1");
        // another VALUE, and another THING, is no matter
        told(SET, "0:ADD3=1 1:HAS4=0 1:HAS3=0", 1, 3, NONE);
        told(play(things(SET, SET), "0:ADD3=1 1:1.HAS3=0"), 1, NONE, NONE, NONE);
        told(play(things(SET, SET), "0:ADD3=1 1:1.HAS3=1"), 1, 1, 3, NONE);
        told(play(things(SET, SET), "0:ADD3=1 1:1.HAS3=1"), 0, NONE, NONE, NONE);
        told(play(things(SET, REGISTER), "0:ADD3=1 1:1.WRITE3=9"), 0, NONE, NONE, NONE);
    }

    private static void wrongAnswers() {
        says("(In QUEUE and REGISTER an ANSWER of a WRITE or PUT that is not 0 counts as reason 5, with the VALUE and NONE:"
                + " then it does not FIT either.");
        for (int value = 1; value <= 9; value++) {
            for (int answer : new int[] {1, 9, 10, 99}) {
                told(REGISTER, "0:WRITE" + value + "=" + answer, 5, value, NONE);
                told(QUEUE, "0:PUT" + value + "=" + answer, 5, value, NONE);
            }
            right(REGISTER, "0:WRITE" + value + "=0");
            right(QUEUE, "0:PUT" + value + "=0");
        }
        told(REGISTER, "0:WRITE5=1 0:WRITE4=1 0:WRITE6=1", 5, 4, NONE);
        told(QUEUE, "0:PUT5=1 0:PUT4=1 0:PUT6=1", 5, 4, NONE);
    }

    private static void smallestReason() {
        says("A reason is told with a first and a second value: of all reasons that are there the smallest is told;"
                + " of REGISTER 1 and 2 the value and NONE, 3 the two VALUES (or 0), the smaller first;"
                + " of QUEUE 1 and 2 the value and NONE, 3 a and b, 4 the number of the TAKE and NONE; of SET the VALUE and NONE.");
        // REGISTER: 1 ahead of 2, 2 ahead of 3, 3 ahead of 5, and 1 ahead of all
        told(REGISTER, "0:READ=2 0:WRITE2=0 1:READ=7", 1, 7, NONE);
        told(REGISTER, "0:READ=9 0:WRITE9=0 0:WRITE1=0 1:READ=9", 2, 9, NONE);
        told(REGISTER, "0:WRITE8=0 0:WRITE1=5 1:READ=8", 3, 1, 8);
        told(REGISTER, "0:READ=9 0:WRITE9=4 0:WRITE1=4 1:READ=9", 2, 9, NONE);
        told(REGISTER, "0:READ=9 0:WRITE9=4 0:WRITE1=4 1:READ=9 1:READ=99", 1, 99, NONE);
        told(REGISTER, "0:WRITE9=4 0:READ=8", 1, 8, NONE);
        // QUEUE: 1 ahead of 2, 2 ahead of 3, 3 ahead of 4, 4 ahead of 5
        told(QUEUE, "0:PUT1=0 0:TAKE=1 0:TAKE=1 0:TAKE=8", 1, 8, NONE);
        told(QUEUE, "0:PUT1=0 0:PUT9=0 0:TAKE=9 0:TAKE=9", 2, 9, NONE);
        told(QUEUE, "0:PUT8=0 0:PUT9=0 0:TAKE=9 0:TAKE=0", 3, 8, 9);
        told(QUEUE, "0:PUT1=5 0:TAKE=0", 4, 1, NONE);
        told(QUEUE, "0:PUT1=5 0:PUT9=0 0:TAKE=9 0:TAKE=9 0:TAKE=0 0:TAKE=99", 1, 99, NONE);
        told(QUEUE, "0:PUT1=5 0:PUT9=0 0:TAKE=9 0:TAKE=9 0:TAKE=0", 2, 9, NONE);
        told(QUEUE, "0:PUT1=5 0:PUT9=0 0:TAKE=9 0:TAKE=0", 3, 1, 9);
        told(QUEUE, "0:TAKE=99 0:TAKE=99", 1, 99, NONE);
    }

    private static void smallestValues() {
        says("Of several of one reason that with the smallest first value is told, then with the smallest second one.");
        told(REGISTER, "0:READ=7 0:READ=5 0:READ=6", 1, 5, NONE);
        told(REGISTER, "0:READ=7 0:READ=5 0:READ=6 0:WRITE7=0 0:WRITE5=0 0:WRITE6=0", 2, 5, NONE);
        told(REGISTER, "0:WRITE7=0 0:WRITE5=0 0:WRITE6=0 1:READ=7", 3, 5, 7);
        told(REGISTER, "0:WRITE5=0 0:WRITE7=0 0:WRITE6=0 1:READ=5", 3, 5, 6);
        told(REGISTER, "0:WRITE5=0 0:WRITE7=0 0:WRITE6=0 1:READ=0", 3, 0, 5);
        told(QUEUE, "0:TAKE=7 0:TAKE=5 0:TAKE=6", 1, 5, NONE);
        told(QUEUE, "0:PUT7=0 0:PUT5=0 1:TAKE=7 1:TAKE=5 2:TAKE=7 2:TAKE=5", 2, 5, NONE);
        told(QUEUE, "0:PUT7=0 0:PUT5=0 0:PUT6=0 1:TAKE=6 1:TAKE=5 1:TAKE=7", 3, 5, 6);
        told(QUEUE, "0:PUT5=0 0:PUT7=0 0:PUT6=0 1:TAKE=6 1:TAKE=7 1:TAKE=5", 3, 5, 6);
        told(QUEUE, "0:PUT5=0 0:PUT6=0 0:PUT7=0 1:TAKE=6 1:TAKE=7 1:TAKE=5", 3, 5, 6);
        told(SET, "0:HAS7=1 0:HAS5=1 0:HAS6=1", 1, 5, NONE);
    }
}
