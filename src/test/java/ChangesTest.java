/** Each call changes what the document says of it, and nothing that other calls tell: not the image, nor the page. */
public final class ChangesTest {
    private static final Due T = new Due();
    private static final String PAGE = "fault\\(\\)|count\\(7\\)";
    private static final String HANGING = "match\\(\\d+\\)|weeks\\(.*\\)|count\\([23]\\)";

    public static void main(String[] args) {
        letterChanges();
        blankChanges();
        stationChanges();
        confessChanges();
        recantChanges();
        alterChanges();
        stitchesChanges();
        triedChanges();
        forgetChanges();
        imageChanges();
        restoreChanges();
        tellingChanges();
        T.end();
    }

    /** An image is kept, in which less hangs and is tried; then all of it has changed, and letters have come. */
    private static ConfessBySize busy() {
        ConfessBySize x = Due.opened("m50,t40,b50,h93;506503727104");
        x.confess(0, 1);
        x.alter(2, false);
        x.tried(1, 0, true);
        x.image();
        x.recant(0);
        x.confess(0, 0);
        x.alter(2, true);
        x.alter(2, true);
        x.tried(2, 3, false);
        x.stitches();
        Due.type(x, "m50,t40;503");
        return x;
    }

    /** All that is told but for these (a pattern) stays; so does what the image tells, when it is come back to. */
    private static void changes(String why, Told.Call call, String may) {
        ConfessBySize x = busy();
        call.on(x);
        stays(why, x, busy(), may + "|digest\\(\\)");
        ConfessBySize y = busy();
        T.due(why + ", restored", x.restore(), y.restore());
        stays(why + ", restored", x, y, PAGE + "|count\\(9\\)|digest\\(\\)");
    }

    private static void stays(String why, ConfessBySize x, ConfessBySize y, String may) {
        for (String call : Told.differing(Told.by(x), Told.by(y))) {
            T.due(why + ": " + call + " may be another then", call.matches(may));
        }
        T.due(why + ": asked", true);
    }

    private static void letterChanges() {
        changes("letter()", x -> x.letter('4'), PAGE);
        changes("letter() that is wrong there", x -> x.letter('z'), PAGE);
    }

    private static void blankChanges() {
        changes("blank()", x -> x.blank(), PAGE);
    }

    /** How often stitches() was done stays; the same text read again is a new one with none of what was. */
    private static void stationChanges() {
        ConfessBySize x = busy();
        T.due("station()", x.station(), 1);
        T.due("stitches() counts on", x.count(9), 1);
        T.due("letters", x.count(7), 0);
        T.due("read", x.count(8), 2);
        ConfessBySize y = Due.opened("m50,t40;503");
        stays("station()", x, y, "count\\([89]\\)|digest\\(\\)");
    }

    private static void confessChanges() {
        changes("confess(3, 2)", x -> x.confess(3, 2),
                "about\\(3, [45]\\)|crime\\(2, 3\\)|count\\(5\\)|" + HANGING);
        ConfessBySize x = busy();
        T.due("confess(3, 2)", x.confess(3, 2), 7);
        T.due("how often one confessed", x.count(5), 3);
        T.due("all are paid", x.count(3), 13);
    }

    private static void recantChanges() {
        changes("recant(0)", x -> x.recant(0), "about\\(0, [45]\\)|crime\\(0, 3\\)|" + HANGING);
        ConfessBySize x = busy();
        T.due("recant(0)", x.recant(0), 0);
        T.due("how often one confessed", x.count(5), 2);
        T.due("all are paid", x.count(3), 0);
    }

    private static void alterChanges() {
        String may = "about\\([0-3], [68]\\)|crime\\(2, [045]\\)|count\\(4\\)|match\\(\\d+\\)|weeks\\(.*\\)";
        changes("alter(2, true)", x -> x.alter(2, true), may);
        changes("alter(2, false)", x -> x.alter(2, false), may);
        T.due("stitches that were made", busy().count(4), 3);
    }

    private static void stitchesChanges() {
        changes("stitches()", x -> x.stitches(), "count\\(9\\)");
    }

    private static void triedChanges() {
        changes("tried(0, 1, true)", x -> x.tried(0, 1, true), "about\\(0, [78]\\)|count\\(6\\)");
        changes("tried(2, 0, false)", x -> x.tried(2, 0, false), "about\\(2, [78]\\)|count\\(6\\)");
    }

    private static void forgetChanges() {
        changes("forget()", x -> x.forget(), "about\\([0-3], [78]\\)|count\\(6\\)");
    }

    /** It changes nothing at once; later it is what is gone on from. */
    private static void imageChanges() {
        ConfessBySize x = busy();
        T.due("image()", x.image(), 2);
        stays("image()", x, busy(), "none");
        x.confess(3, 2);
        x.alter(1, true);
        x.forget();
        T.due("restore()", x.restore(), 2);
        stays("image() and restore()", x, busy(), "none");
    }

    /** "the SIZES of CRIMES, who has CONFESSED what, STITCHES, how often one CONFESSED, what is TRIED": no more. */
    private static void restoreChanges() {
        ConfessBySize x = busy();
        T.due("restore()", x.restore(), 1);
        stays("restore()", x, busy(), "about\\([0-3], [4-8]\\)|crime\\([0-3], [0345]\\)|count\\([2-6]\\)|"
                + "match\\(\\d+\\)|weeks\\(.*\\)|digest\\(\\)");
        T.due("size of a crime", x.crime(2, 0), 6);
        T.due("who has confessed what", x.about(0, 4), 1);
        T.due("what he is paid", x.about(0, 5), 3);
        T.due("stitches", x.count(4), 1);
        T.due("how often one confessed", x.count(5), 1);
        T.due("how much is tried", x.count(6), 1);
        T.due("what is tried", x.about(1, 7), 124);
        T.due("what was tried since", x.about(2, 7), 511);
        T.due("letters", x.count(7), 11);
        T.due("stitches() that were done", x.count(9), 1);
    }

    private static void tellingChanges() {
        changes("fault()", x -> x.fault(), "none");
        changes("about(0, 8)", x -> x.about(0, 8), "none");
        changes("as(3, 1)", x -> x.as(3, 1), "none");
        changes("crime(0, 5)", x -> x.crime(0, 5), "none");
        changes("match(0)", x -> x.match(0), "none");
        changes("weeks(60, 9, 0)", x -> x.weeks(60, 9, 0), "none");
        changes("count(9)", x -> x.count(9), "none");
        changes("digest()", x -> (int) x.digest(), "none");
    }
}
