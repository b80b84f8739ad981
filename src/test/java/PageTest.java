/** Promises 1 to 5: a new object, letter, blank, fault, station. */
public final class PageTest {
    private static final Due T = new Due();

    public static void main(String[] args) {
        newObject();
        letters();
        fullPage();
        blank();
        faults();
        goodTexts();
        badTexts();
        readAgain();
        T.end();
    }

    private static void newObject() {
        ConfessBySize x = new ConfessBySize();
        for (int what = 0; what <= 9; what++) T.due("new count(" + what + ")", x.count(what), 0);
        T.due("new fault", x.fault(), 0);
        T.due("new blank", x.blank(), 0);
        T.due("new forget", x.forget(), 0);
        T.due("new station", x.station(), ConfessBySize.STATE);
        T.due("new about", x.about(0, 0), ConfessBySize.UNKNOWN);
        T.due("new as", x.as(0, 0), ConfessBySize.UNKNOWN);
        T.due("new crime", x.crime(0, 0), ConfessBySize.UNKNOWN);
        T.due("new confess", x.confess(0, 0), ConfessBySize.UNKNOWN);
        T.due("new recant", x.recant(0), ConfessBySize.UNKNOWN);
        T.due("new alter", x.alter(0, true), ConfessBySize.UNKNOWN);
        T.due("new tried", x.tried(0, 0, true), ConfessBySize.UNKNOWN);
        T.due("new match", x.match(0), ConfessBySize.STATE);
        T.due("new stitches", x.stitches(), ConfessBySize.STATE);
        T.due("new weeks", x.weeks(1, 0, 0), ConfessBySize.STATE);
        T.due("new image", x.image(), ConfessBySize.STATE);
        T.due("new restore", x.restore(), ConfessBySize.STATE);
        long h = 1009;
        for (int what = 0; what <= 9; what++) h = 31 * h;
        T.due("new digest", x.digest(), h);
    }

    private static void letters() {
        ConfessBySize x = new ConfessBySize();
        T.due("letter(31)", x.letter(31), ConfessBySize.OUTSIDE);
        T.due("letter(127)", x.letter(127), ConfessBySize.OUTSIDE);
        T.due("letter(-1)", x.letter(-1), ConfessBySize.OUTSIDE);
        T.due("letter(min)", x.letter(Integer.MIN_VALUE), ConfessBySize.OUTSIDE);
        T.due("letter(max)", x.letter(Integer.MAX_VALUE), ConfessBySize.OUTSIDE);
        T.due("nothing came", x.count(7), 0);
        T.due("letter(32)", x.letter(32), 1);
        T.due("letter(126)", x.letter(126), 2);
        T.due("two came", x.count(7), 2);
    }

    private static void fullPage() {
        ConfessBySize x = new ConfessBySize();
        for (int i = 1; i <= 30; i++) T.due("letter " + i, x.letter('m'), i);
        long before = x.digest();
        T.due("the 31st", x.letter('m'), ConfessBySize.FULL);
        T.due("the 31st, outside ahead of full", x.letter(127), ConfessBySize.OUTSIDE);
        T.due("full changes nothing", x.digest(), before);
        T.due("30 stay", x.blank(), 30);
        T.due("after blank", x.letter('m'), 1);
    }

    private static void blank() {
        ConfessBySize x = Due.typed("m51,m51");
        T.due("blank", x.blank(), 7);
        T.due("blank again", x.blank(), 0);
        T.due("fault then", x.fault(), 0);
        Due.type(x, "m51,m51;511");
        T.due("a station behind a blank", x.station(), 1);
        Due.type(x, "zz");
        T.due("blank with a station", x.blank(), 2);
        T.due("the station stays", x.count(0), 2);
    }

    private static void fault(String text, int want) {
        ConfessBySize x = Due.typed(text);
        T.due("fault of " + text, x.fault(), want);
        T.due("fault changes nothing: " + text, x.count(7), text.length());
    }

    private static void faults() {
        fault("m", 1);
        fault("t", 1);
        fault("b", 1);
        fault("i", 1);
        fault("h", 1);
        fault("M", 0);
        fault("5", 0);
        fault(";", 0);
        fault(",", 0);
        fault(" m51", 0);
        fault("m0", 1);
        fault("m1", 2);
        fault("m9", 2);
        fault("m:", 1);
        fault("m/", 1);
        fault("m10", 3);
        fault("m13", 3);
        fault("m14", 2);
        fault("m1/", 2);
        fault("m13;", 3);
        fault("m13,", 4);
        fault("m13m", 3);
        fault("m13,,", 4);
        fault("m13,m13;", 8);
        fault("m13,m13;0", 8);
        fault("m13,m13;1", 9);
        fault("m13,m13;14", 9);
        fault("m13,m13;13", 10);
        fault("m13,m13;130", 10);
        fault("m13,m13;131", 11);
        fault("m13,m13;139", 11);
        fault("m13,m13;13:", 10);
        fault("m13,m13;131,", 11);
        fault("m13,m13;131;", 11);
        fault("m13,m13;1310", 11);
        fault("m13,m13;;", 8);
        fault("m13,m13,m13,m13,", 15);
        fault("m13,m13,m13,m13;", 16);
        fault("m13,m13,m13;131", 15);
        fault("m13,m13;131131131131", 20);
        fault("m13,m13;1311311311311", 20);
        fault("m13,m13,m13,m13;131131131131", 28);
        fault("m13,m13,m13,m13;13113113113111", 28);
        fault("zm13", 0);
    }

    private static void good(String text, int people, int crimes) {
        ConfessBySize x = Due.typed(text);
        T.due("station of " + text, x.station(), crimes);
        T.due("people of " + text, x.count(0), people);
        T.due("crimes of " + text, x.count(1), crimes);
        T.due("the page is empty: " + text, x.count(7), 0);
        T.due("no fault there: " + text, x.fault(), 0);
        T.due("read once: " + text, x.count(8), 1);
    }

    private static void goodTexts() {
        good("m10,t93;101", 2, 1);
        good("m10,t93;101939", 2, 2);
        good("m10,t93,b50;101939515", 3, 3);
        good("m10,t93,b50,i91;101939515212", 4, 4);
        good("h11,h11,h11,h11;111", 4, 1);
    }

    private static void bad(String text) {
        ConfessBySize x = Due.opened("m10,t93;101939");
        x.confess(0, 0);
        x.image();
        Due.type(x, text);
        long before = x.digest();
        T.due("station of " + text, x.station(), ConfessBySize.STATE);
        T.due("refused changes nothing: " + text, x.digest(), before);
        T.due("the image stays: " + text, x.restore(), 1);
    }

    private static void badTexts() {
        bad("");
        bad("m");
        bad("m10;101");
        bad("m10,t93");
        bad("m10,t93;");
        bad("m10,t93;1");
        bad("m10,t93;10");
        bad("m10,t93;1019");
        bad("m10,t93;10193");
        bad("m10,t93;141");
        bad("m10,t93,;101");
        bad("m10,t93;101;");
        bad("m10,t93;101 ");
        bad("m10,t93,m11,m11,m11;101");
        bad("m10,t93;101101101101101");
        bad("101;m10,t93");
        bad("x10,t93;101");
    }

    private static void readAgain() {
        ConfessBySize x = Due.opened("m50,t50,b50;501602");
        x.confess(0, 0);
        x.alter(1, true);
        x.tried(2, 0, true);
        x.stitches();
        x.image();
        Due.type(x, "m50,t50;501");
        T.due("read again", x.station(), 1);
        T.due("people then", x.count(0), 2);
        T.due("crimes then", x.count(1), 1);
        T.due("nothing hangs", x.count(2), 0);
        T.due("nothing is paid", x.count(3), 0);
        T.due("no stitch", x.count(4), 0);
        T.due("none confessed", x.count(5), 0);
        T.due("nothing is tried", x.count(6), 0);
        T.due("read twice", x.count(8), 2);
        T.due("stitches() counts on", x.count(9), 1);
        T.due("the image is gone", x.restore(), ConfessBySize.STATE);
        T.due("a person who is gone", x.about(2, 0), ConfessBySize.UNKNOWN);
        T.due("a crime that is gone", x.crime(1, 0), ConfessBySize.UNKNOWN);
        T.due("sizes as told", x.crime(0, 0), 5);
        T.due("he has none", x.about(0, 4), ConfessBySize.NONE);
        T.due("all are left", x.about(1, 7), 511);
    }
}
