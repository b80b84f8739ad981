/** Full: the page at 30 letters, the 6th and 7th that is tried, the 12th and 13th stitches(), the 512th call. */
public final class FullTest {
    private static final Due T = new Due();
    private static final int NONE = ConfessBySize.NONE, STATE = ConfessBySize.STATE, FULL = ConfessBySize.FULL;

    public static void main(String[] args) {
        thirtyLetters();
        thirtyOfAnyKind();
        thirtyAfterBlank();
        longestStation();
        sixTried();
        sixOfOneAndOfMany();
        sixAgainWhenForgotten();
        sixAgainOfAnotherStation();
        sixOfAnImage();
        allSixCount();
        twelveStitches();
        twelveWhateverIsRead();
        twelveWhateverIsRestored();
        twelveWhateverTheyAnswer();
        refusedIsNotCounted();
        allPaid();
        oneImageTheLatest();
        calls512();
        T.end();
    }

    // ---- promise 2: "FULL: above 30"

    private static void thirtyLetters() {
        ConfessBySize x = new ConfessBySize();
        for (int i = 1; i <= 30; i++) T.due("letter " + i, x.letter('a'), i);
        T.due("30 letters", x.count(7), 30);
        for (int i = 0; i < 3; i++) T.due("one more", x.letter('a'), FULL);
        T.due("30 letters all the same", x.count(7), 30);
        T.due("blank() of 30", x.blank(), 30);
    }

    /** Each of the 30 is kept as it came: they are in the digest. */
    private static void thirtyOfAnyKind() {
        ConfessBySize x = new ConfessBySize();
        long h = 1009;
        for (int i = 0; i < 30; i++) {
            x.letter(126 - 3 * i);
            h = 31 * h + 126 - 3 * i;
        }
        x.letter('!');
        for (int what = 0; what <= 9; what++) h = 31 * h + (what == 7 ? 30 : 0);
        T.due("digest() of 30 letters", x.digest(), h);
    }

    private static void thirtyAfterBlank() {
        ConfessBySize x = new ConfessBySize();
        for (int round = 0; round < 3; round++) {
            for (int i = 1; i <= 30; i++) T.due("letter " + i + " of round " + round, x.letter('m'), i);
            T.due("the 31st of round " + round, x.letter('m'), FULL);
            x.blank();
        }
    }

    /** The longest station has 28 letters: a page of 30 is none, and its fault is where it would end. */
    private static void longestStation() {
        ConfessBySize x = Due.typed("m50,m50,m50,m50;501501501501");
        T.due("28 are right", x.fault(), 28);
        x.letter('5');
        T.due("the 29th is not", x.fault(), 28);
        x.letter('0');
        T.due("30 letters", x.count(7), 30);
        T.due("nor is the 30th", x.fault(), 28);
        T.due("station() of 30", x.station(), STATE);
        T.due("the page stays", x.count(7), 30);
        T.due("station() of 28", Due.typed("m50,m50,m50,m50;501501501501").station(), 4);
    }

    // ---- terms 3: "TRIED (6 at most)"; promise 14: "FULL"

    private static void sixTried() {
        ConfessBySize x = Due.opened("m50,m50;501");
        for (int i = 1; i <= 6; i++) T.due("tried " + i, x.tried(0, 0, true), i);
        for (int i = 0; i < 3; i++) T.due("one more", x.tried(0, 0, true), FULL);
        T.due("six are", x.count(6), 6);
        T.due("forget() of six", x.forget(), 6);
    }

    private static void sixOfOneAndOfMany() {
        ConfessBySize x = Due.opened("m50,m50,m50,m50;501502503504");
        for (int i = 1; i <= 6; i++) T.due("tried " + i, x.tried(i % 4, i % 3, i % 2 == 0), i);
        for (int p = 0; p < 4; p++) {
            for (int c = 0; c < 4; c++) T.due("one more", x.tried(p, c, true), FULL);
        }
    }

    private static void sixAgainWhenForgotten() {
        ConfessBySize x = Due.opened("m50,m50;501");
        for (int round = 0; round < 3; round++) {
            for (int i = 1; i <= 6; i++) T.due("tried " + i + " of round " + round, x.tried(1, 0, true), i);
            T.due("the 7th of round " + round, x.tried(1, 0, true), FULL);
            T.due("forget()", x.forget(), 6);
        }
    }

    private static void sixAgainOfAnotherStation() {
        ConfessBySize x = Due.opened("m50,m50;501");
        for (int i = 1; i <= 7; i++) x.tried(0, 0, true);
        Due.type(x, "m50,m50;501");
        x.station();
        for (int i = 1; i <= 6; i++) T.due("tried " + i, x.tried(0, 0, true), i);
        T.due("the 7th", x.tried(0, 0, true), FULL);
    }

    private static void sixOfAnImage() {
        ConfessBySize x = Due.opened("m50,m50;501");
        for (int i = 1; i <= 5; i++) x.tried(0, 0, true);
        x.image();
        T.due("the 6th", x.tried(0, 0, false), 6);
        T.due("the 7th", x.tried(0, 0, false), FULL);
        x.restore();
        T.due("five are", x.count(6), 5);
        T.due("how large, by five", x.about(0, 7), 56);
        T.due("the 6th, restored", x.tried(1, 0, true), 6);
        x.image();
        x.forget();
        T.due("the first", x.tried(0, 0, true), 1);
        x.restore();
        T.due("six are", x.count(6), 6);
        T.due("the 7th, restored", x.tried(0, 0, true), FULL);
    }

    /** Each of the six tells of him, the first and the last, too. */
    private static void allSixCount() {
        for (int place = 0; place < 6; place++) {
            ConfessBySize x = Due.opened("m50,m50;501");
            for (int i = 0; i < 6; i++) x.tried(i == place ? 0 : 1, 0, i == place);
            T.due("it fits, told as number " + place, x.about(0, 7), 56);
            T.due("it does not, told by the other five", x.about(1, 7), 511 - 56);
        }
    }

    // ---- promise 13: "STATE: .. stitches() was done 12 times ever"

    private static void twelveStitches() {
        ConfessBySize x = Due.opened("m50,m50;701");
        for (int i = 1; i <= 12; i++) {
            T.due("stitches() " + i, x.stitches(), 1);
            T.due("it was done", x.count(9), i);
        }
        for (int i = 0; i < 3; i++) T.due("one more", x.stitches(), STATE);
        T.due("12 times", x.count(9), 12);
    }

    /** "it counts on, whatever is read": a station between any two, of the same text or of another. */
    private static void twelveWhateverIsRead() {
        ConfessBySize x = new ConfessBySize();
        for (int i = 1; i <= 12; i++) {
            Due.type(x, i % 2 == 0 ? "m50,m50;701" : "m50,m50;401801");
            x.station();
            T.due("it counts on", x.count(9), i - 1);
            T.due("stitches() " + i, x.stitches(), i % 2 == 0 ? 1 : 2);
        }
        T.due("the 13th", x.stitches(), STATE);
        Due.type(x, "m50,m50;701");
        x.station();
        T.due("the 13th of another station", x.stitches(), STATE);
        T.due("12 times", x.count(9), 12);
    }

    private static void twelveWhateverIsRestored() {
        ConfessBySize x = Due.opened("m50,m50;701");
        x.image();
        for (int i = 1; i <= 12; i++) {
            T.due("stitches() " + i, x.stitches(), 1);
            x.restore();
            T.due("it counts on", x.count(9), i);
        }
        T.due("the 13th", x.stitches(), STATE);
        x.restore();
        T.due("the 13th, restored", x.stitches(), STATE);
    }

    /** One that answers NONE is done, too. */
    private static void twelveWhateverTheyAnswer() {
        ConfessBySize x = Due.opened("m50,b50;901");
        for (int i = 1; i <= 12; i++) {
            T.due("stitches() " + i, x.stitches(), NONE);
            T.due("it was done", x.count(9), i);
        }
        T.due("the 13th", x.stitches(), STATE);
    }

    private static void refusedIsNotCounted() {
        ConfessBySize x = new ConfessBySize();
        for (int i = 0; i < 20; i++) T.due("no station", x.stitches(), STATE);
        T.due("none was done", x.count(9), 0);
        Due.type(x, "m50,m50;701");
        x.station();
        for (int i = 1; i <= 12; i++) T.due("stitches() " + i, x.stitches(), 1);
        for (int i = 0; i < 20; i++) T.due("above 12", x.stitches(), STATE);
        T.due("12 were", x.count(9), 12);
    }

    // ---- all that can hang does; one image; 512 calls

    private static void allPaid() {
        ConfessBySize x = Due.opened("m50,t50,i50,h50;509509509509");
        for (int p = 0; p < 4; p++) T.due("confess(" + p + ")", x.confess(p, 3 - p), 9);
        T.due("four hang", x.count(2), 4);
        T.due("all are paid", x.count(3), 36);
        for (int p = 0; p < 4; p++) T.due("paid to " + p, x.about(p, 5), 9);
        for (int c = 0; c < 4; c++) T.due("hangs on", x.crime(c, 3), 3 - c);
        for (int p = 0; p < 4; p++) T.due("recant(" + p + ")", x.recant(p), 3 - p);
        T.due("nothing is paid", x.count(3), 0);
    }

    /** "one; the latest": the one before it is not come back to. */
    private static void oneImageTheLatest() {
        ConfessBySize x = Due.opened("m50,m50,m50;501502503");
        for (int p = 0; p < 3; p++) {
            T.due("image()", x.image(), p);
            x.confess(p, p);
        }
        for (int i = 0; i < 3; i++) {
            T.due("restore()", x.restore(), 2);
            T.due("two hang", x.count(2), 2);
        }
    }

    /** "at most 512 calls": the last of them answers as the first. */
    private static void calls512() {
        ConfessBySize x = new ConfessBySize();
        Due.type(x, "m50,m50;501");
        x.station();
        for (int call = 13; call <= 510; call += 2) {
            T.due("confess() as call " + call, x.confess(call / 2 % 2, 0), 1);
            T.due("recant() as call " + (call + 1), x.recant(call / 2 % 2), 0);
        }
        T.due("confess() as call 511", x.confess(0, 0), 1);
        T.due("how often, as call 512", x.count(5), 250);
    }
}
