/** Promises 12 and 13: match, stitches. */
public final class CouldBeTest {
    private static final Due T = new Due();

    public static void main(String[] args) {
        matches();
        matchLeavesOut();
        matchAnew();
        matchRefuses();
        fewest();
        fewestLeavesOut();
        twelveTimes();
        T.end();
    }

    private static void match(ConfessBySize x, String run, int many, int reward, int... has) {
        long before = x.digest();
        T.due(run + ": many", x.match(0), many);
        T.due(run + ": reward", x.match(1), reward);
        for (int person = 0; person < 4; person++) {
            int want = person < has.length ? has[person] : ConfessBySize.NONE;
            T.due(run + ": has " + person, x.match(10 + person), want);
        }
        T.due(run + ": match changes nothing", x.digest(), before);
    }

    private static void match(String text, int many, int reward, int... has) {
        match(Due.opened(text), text, many, reward, has);
    }

    private static void matches() {
        match("m50,m51;501511", 2, 2, 0, 1);
        match("m50,m51;511501", 2, 2, 1, 0);
        match("m50,m52;511", 0, 0);
        // the one who can have the dearest alone has it, though another of as many would be ahead by numbers
        match("t50,m70;601709401", 2, 10, 0, 1);
        match("t50,m70;601709409", 2, 18, 2, 1);
        match("t50,m70;601801409", 2, 10, 2, 0);
        match("m50,b50;401509601", 1, 9, 1);
        // of like ones: none ahead of all, so the last person has the one crime
        match("m50,m50,m50;505", 1, 5, -1, -1, 0);
        // of like ones: the least crime for person 0
        match("m50,m50;505505505", 2, 10, 0, 1);
        match("m50,t50;505705505", 2, 10, 0, 1);
        match("m50,m50,m50,m50;501502503504", 4, 10, 0, 1, 2, 3);
        match("m50,m50,m50;501502503504", 3, 9, 1, 2, 3);
        match("b50,b50;505", 0, 0);
        match("i50,m60;605", 1, 5, -1, 0);
        match("h13,m10;105311", 2, 6, 1, 0);
    }

    private static void matchLeavesOut() {
        ConfessBySize x = Due.opened("m50,m50,m60;509507503");
        match(x, "at first", 3, 19, 0, 1, 2);
        x.confess(1, 0);
        match(x, "one has confessed", 2, 10, 1, -1, 2);
        x.confess(0, 1);
        match(x, "two have", 1, 3, -1, -1, 2);
        x.confess(2, 2);
        match(x, "all have", 0, 0);
        x.recant(0);
        match(x, "one recants", 1, 7, 1, -1, -1);
        x.alter(1, true);
        x.alter(1, true);
        match(x, "let out, it fits him no more", 0, 0);
    }

    /** No other call between that could have searched already. */
    private static void matchAnew() {
        for (int what : new int[] {0, 1, 10, 11}) {
            ConfessBySize x = Due.opened("m50,m60;502603");
            T.due("the first match(" + what + ")", x.match(what), new int[] {2, 5, 0, 1}[what % 8]);
            x.confess(0, 0);
            T.due("the second match(" + what + ")", x.match(what), new int[] {1, 3, -1, 1}[what % 8]);
        }
    }

    private static void matchRefuses() {
        ConfessBySize none = new ConfessBySize();
        ConfessBySize x = Due.opened("m50,m51;501511");
        long before = x.digest();
        for (int what : new int[] {-1, 2, 9, 14, Integer.MIN_VALUE, Integer.MAX_VALUE}) {
            T.due("match(" + what + ")", x.match(what), ConfessBySize.OUTSIDE);
            T.due("outside ahead of state: " + what, none.match(what), ConfessBySize.OUTSIDE);
        }
        for (int what : new int[] {0, 1, 10, 11, 12, 13}) {
            T.due("no station: match(" + what + ")", none.match(what), ConfessBySize.STATE);
        }
        T.due("refused changes nothing", x.digest(), before);
    }

    private static void stitches(String text, int want) {
        ConfessBySize x = Due.opened(text);
        T.due("stitches of " + text, x.stitches(), want);
        T.due("no crime is altered: " + text, x.count(4), 0);
        T.due("done once: " + text, x.count(9), 1);
        for (int crime = 0; crime < x.count(1); crime++) {
            int told = text.charAt(text.indexOf(';') + 1 + 3 * crime) - '0';
            T.due("its size stays: " + text, x.crime(crime, 0), told);
        }
    }

    private static void fewest() {
        stitches("m50,m50;501501", 0);
        stitches("m50,m50;701401", 1);
        stitches("m50,m50;801", 2);
        stitches("m50,m50;901", ConfessBySize.NONE);
        stitches("m50,m50;201", 2);
        stitches("m50,m50;101", ConfessBySize.NONE);
        stitches("t50,b90;901", 2);
        stitches("t50,b90;911", ConfessBySize.NONE);
        stitches("h53,b90;911", 2);
        stitches("b50,b50;501", ConfessBySize.NONE);
        stitches("m50,m60;501501501", ConfessBySize.NONE);
        stitches("m50,m60,b50;501501", 0);
        // the one who is nearest to both goes to the one that nobody else can have
        stitches("m50,m20;501601", 2);
        stitches("m50,m20;401501", 1);
        stitches("m50,m20;501901", ConfessBySize.NONE);
        // an Irish one of 9 counts 10, and bears no less than 9, to which it is let out
        stitches("i90,b10;701", 2);
        stitches("i90,b10;801", 1);
        stitches("i90,b10;601", ConfessBySize.NONE);
        stitches("m10,m90;901101", 0);
        // by 1 each, or by 0 and 2; then pairs of which one needs none
        stitches("m50,m40;601701", 2);
        stitches("t50,m60;701801", 1);
        stitches("t50,m30,m70;501501501", 2);
        stitches("t50,m90;701901601", ConfessBySize.NONE);
        stitches("m50,t70;701301", 1);
        stitches("m40,m40,m40,m40;701701701701", 8);
        stitches("m40,m40,m40,m40;701701701101", 8);
    }

    private static void fewestLeavesOut() {
        ConfessBySize x = Due.opened("m50,m50,m20;501601801");
        T.due("three people, three crimes", x.stitches(), 4);
        x.confess(0, 1);
        T.due("one hangs", x.stitches(), 4);
        x.confess(1, 0);
        T.due("nobody is near", x.stitches(), ConfessBySize.NONE);
        x.recant(0);
        T.due("from its size now", x.stitches(), ConfessBySize.NONE);
        x.confess(0, 1);
        for (int i = 0; i < 5; i++) x.alter(2, false);
        T.due("when it was taken in", x.stitches(), 0);
        x.confess(2, 2);
        T.due("all hang", x.stitches(), 0);
    }

    private static void twelveTimes() {
        ConfessBySize x = new ConfessBySize();
        T.due("no station", x.stitches(), ConfessBySize.STATE);
        T.due("was not done", x.count(9), 0);
        Due.type(x, "m50,m50;701401");
        x.station();
        x.image();
        for (int i = 1; i <= 6; i++) {
            T.due("stitches " + i, x.stitches(), 1);
            T.due("done " + i, x.count(9), i);
        }
        x.restore();
        T.due("it counts on behind a restore", x.count(9), 6);
        for (int i = 0; i < 4; i++) x.stitches();
        Due.type(x, "m50,m50;901401");
        x.station();
        T.due("it counts on behind a station", x.count(9), 10);
        T.due("the 11th", x.stitches(), ConfessBySize.NONE);
        T.due("the 12th", x.stitches(), ConfessBySize.NONE);
        long before = x.digest();
        T.due("the 13th", x.stitches(), ConfessBySize.STATE);
        T.due("refused changes nothing", x.digest(), before);
        T.due("done 12 times", x.count(9), 12);
        Due.type(x, "m50,m50;501");
        x.station();
        T.due("the 13th, of another station", x.stitches(), ConfessBySize.STATE);
    }
}
