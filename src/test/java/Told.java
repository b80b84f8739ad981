import java.util.ArrayList;
import java.util.List;

/** All that the calls tell of an object without changing it, and whether two objects tell the same of themselves. */
final class Told {
    private static final int MOST = 200;
    private final String[] calls = new String[MOST];
    private final long[] answers = new long[MOST];
    private int many;

    /** One call, written as code: the tests hand over the very call that is refused. */
    interface Call {
        int on(ConfessBySize x);
    }

    private Told() {
    }

    private void note(String call, long answer) {
        calls[many] = call;
        answers[many] = answer;
        many++;
    }

    static Told by(ConfessBySize x) {
        Told told = new Told();
        for (int p = 0; p < 4; p++) {
            for (int what = 0; what <= 8; what++) told.note("about(" + p + ", " + what + ")", x.about(p, what));
            told.note("as(" + p + ", 1)", x.as(p, 1));
        }
        for (int c = 0; c < 4; c++) {
            for (int what = 0; what <= 5; what++) told.note("crime(" + c + ", " + what + ")", x.crime(c, what));
        }
        for (int what : new int[] {0, 1, 10, 11, 12, 13}) told.note("match(" + what + ")", x.match(what));
        for (int what = 0; what <= 2; what++) told.note("weeks(9, 4, " + what + ")", x.weeks(9, 4, what));
        for (int what = 0; what <= 9; what++) told.note("count(" + what + ")", x.count(what));
        told.note("fault()", x.fault());
        told.note("digest()", x.digest());
        return told;
    }

    /** The calls that one answers otherwise than the other. */
    static List<String> differing(Told one, Told other) {
        List<String> calls = new ArrayList<>();
        for (int i = 0; i < one.many; i++) {
            if (one.answers[i] != other.answers[i]) calls.add(one.calls[i]);
        }
        return calls;
    }

    static void same(Due t, String why, Told got, Told want) {
        for (int i = 0; i < want.many; i++) t.due(why + ": " + want.calls[i], got.answers[i], want.answers[i]);
    }

    /** Both go on alike, so that what is told only later (an image, how often a call may still come) shows, too. */
    static void sameEver(Due t, String why, ConfessBySize got, ConfessBySize want) {
        same(t, why, by(got), by(want));
        Call[] later = {x -> x.stitches(), x -> x.letter(';'), x -> x.tried(0, 0, true), x -> x.confess(0, 0),
            x -> x.recant(1), x -> x.alter(1, true), x -> x.restore()};
        for (int i = 0; i < later.length; i++) {
            t.due(why + ", and later call " + i, later[i].on(got), later[i].on(want));
        }
        same(t, why + ", and restored", by(got), by(want));
        Call[] last = {x -> x.image(), x -> x.forget(), x -> x.restore(), x -> x.station(), x -> x.blank()};
        for (int i = 0; i < last.length; i++) {
            t.due(why + ", and last call " + i, last[i].on(got), last[i].on(want));
        }
        t.due(why + ", and in the end", got.digest(), want.digest());
    }
}
