/** Promises 17 to 20: image, restore, count, digest. */
public final class WholeTest {
    private static final Due T = new Due();

    public static void main(String[] args) {
        goesOn();
        keepsNoOther();
        latestImage();
        imageIsApart();
        refusals();
        counts();
        digest();
        T.end();
    }

    private static final String TEXT = "m50,m50,b50,t60;505503808";

    private static void goesOn() {
        ConfessBySize x = Due.opened(TEXT);
        x.confess(0, 0);
        x.recant(0);
        x.confess(1, 1);
        x.alter(2, false);
        x.tried(0, 2, true);
        x.tried(3, 0, false);
        long before = x.digest();
        T.due("image", x.image(), 2);
        T.due("image changes nothing", x.digest(), before);
        for (int round = 0; round < 2; round++) {
            x.recant(1);
            x.confess(0, 1);
            x.confess(3, 2);
            x.alter(0, true);
            x.forget();
            x.tried(2, 0, true);
            T.due("other than before", x.digest() != before);
            T.due("restore", x.restore(), 2);
            T.due("as before", x.digest(), before);
            T.due("size", x.crime(2, 0), 7);
            T.due("hangs on", x.crime(1, 3), 1);
            T.due("hangs on nobody", x.crime(2, 3), ConfessBySize.NONE);
            T.due("stitches", x.count(4), 1);
            T.due("confessed", x.count(5), 2);
            T.due("tried", x.count(6), 2);
            T.due("how large", x.about(0, 7), 224);
            T.due("how large", x.about(3, 7), 511 - 124);
            T.due("he may go on", x.tried(1, 0, true), 3);
        }
    }

    private static void keepsNoOther() {
        ConfessBySize x = Due.opened(TEXT);
        Due.type(x, "ab");
        x.stitches();
        x.image();
        x.blank();
        Due.type(x, "xyz");
        x.stitches();
        x.restore();
        T.due("the page is none of it", x.count(7), 3);
        T.due("stitches() is none of it", x.count(9), 2);
        T.due("how often a station was read is none of it", x.count(8), 1);
    }

    private static void latestImage() {
        ConfessBySize x = Due.opened(TEXT);
        T.due("the first", x.image(), 0);
        x.confess(0, 0);
        T.due("the latest", x.image(), 1);
        x.confess(1, 1);
        T.due("restore", x.restore(), 1);
        T.due("it hangs", x.crime(0, 3), 0);
        T.due("it does not", x.crime(1, 3), ConfessBySize.NONE);
    }

    private static void imageIsApart() {
        ConfessBySize x = Due.opened(TEXT);
        x.image();
        x.restore();
        x.confess(0, 0);
        x.alter(2, true);
        x.tried(0, 0, true);
        x.weeks(60, 7, 0);
        T.due("restore", x.restore(), 0);
        T.due("nothing hangs", x.count(2), 0);
        T.due("no stitch", x.count(4), 0);
        T.due("nothing is tried", x.count(6), 0);
        T.due("as told", x.crime(2, 0), 8);
    }

    private static void refusals() {
        ConfessBySize x = new ConfessBySize();
        T.due("no station", x.image(), ConfessBySize.STATE);
        T.due("no image", x.restore(), ConfessBySize.STATE);
        Due.type(x, TEXT);
        x.station();
        long before = x.digest();
        T.due("none was kept", x.restore(), ConfessBySize.STATE);
        T.due("refused changes nothing", x.digest(), before);
        x.image();
        Due.type(x, TEXT);
        T.due("the page does not matter", x.restore(), 0);
        x.station();
        before = x.digest();
        T.due("a station was read since, of the same text", x.restore(), ConfessBySize.STATE);
        T.due("refused changes nothing", x.digest(), before);
        x.image();
        T.due("of the new one", x.restore(), 0);
    }

    private static void counts() {
        ConfessBySize x = Due.opened(TEXT);
        x.confess(0, 0);
        x.confess(1, 1);
        x.recant(1);
        x.confess(3, 2);
        x.alter(1, true);
        x.alter(1, false);
        x.alter(1, false);
        x.tried(0, 0, true);
        x.stitches();
        x.stitches();
        Due.type(x, "m50,m");
        int[] want = {4, 3, 2, 13, 3, 3, 1, 5, 1, 2};
        for (int what = 0; what <= 9; what++) T.due("count(" + what + ")", x.count(what), want[what]);
        long before = x.digest();
        for (int what : new int[] {-1, 10, Integer.MIN_VALUE, Integer.MAX_VALUE}) {
            T.due("count(" + what + ")", x.count(what), ConfessBySize.OUTSIDE);
            T.due("no station: count(" + what + ")", new ConfessBySize().count(what), ConfessBySize.OUTSIDE);
        }
        T.due("refused changes nothing", x.digest(), before);
    }

    /** As the document tells it, by the other calls. */
    private static long toldDigest(ConfessBySize x, String page) {
        long h = 1009;
        for (int person = 0; person < x.count(0); person++) {
            for (int what = 0; what <= 8; what++) h = 31 * h + x.about(person, what);
        }
        for (int crime = 0; crime < x.count(1); crime++) {
            for (int what = 0; what <= 5; what++) h = 31 * h + x.crime(crime, what);
        }
        if (x.count(0) > 0) {
            for (int what : new int[] {0, 1, 10, 11, 12, 13}) h = 31 * h + x.match(what);
        }
        for (int i = 0; i < page.length(); i++) h = 31 * h + page.charAt(i);
        for (int what = 0; what <= 9; what++) h = 31 * h + x.count(what);
        return h;
    }

    private static void digest() {
        ConfessBySize x = new ConfessBySize();
        T.due("new", x.digest(), toldDigest(x, ""));
        Due.type(x, "~ m5");
        T.due("a page alone", x.digest(), toldDigest(x, "~ m5"));
        x.blank();
        Due.type(x, TEXT);
        x.station();
        T.due("a station", x.digest(), toldDigest(x, ""));
        Due.type(x, "h13,");
        x.confess(0, 1);
        x.tried(3, 1, true);
        x.alter(2, false);
        x.stitches();
        T.due("all of it", x.digest(), toldDigest(x, "h13,"));
        T.due("again", x.digest(), toldDigest(x, "h13,"));
        ConfessBySize y = Due.typed("m4");
        ConfessBySize z = Due.typed("4m");
        T.due("letters in their order", y.digest() != z.digest());
    }
}
