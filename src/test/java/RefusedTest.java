/** Each refusal of each call: which it is, which of several comes first, and that it changes nothing at all. */
public final class RefusedTest {
    private static final Due T = new Due();
    private static final int NONE = ConfessBySize.NONE, UNKNOWN = ConfessBySize.UNKNOWN;
    private static final int OUTSIDE = ConfessBySize.OUTSIDE, STATE = ConfessBySize.STATE, FULL = ConfessBySize.FULL;
    private static final int LEAST = Integer.MIN_VALUE, MOST = Integer.MAX_VALUE;

    public static void main(String[] args) {
        waysAreAsTold();
        letterOutside();
        letterFull();
        letterOutsideAheadOfFull();
        stationState();
        stationStateWithoutOne();
        aboutUnknown();
        aboutOutside();
        aboutUnknownAheadOfOutside();
        asUnknown();
        asOutside();
        asUnknownAheadOfOutside();
        crimeUnknown();
        crimeOutside();
        crimeUnknownAheadOfOutside();
        confessUnknown();
        confessOfAnotherSize();
        confessOfAnotherHand();
        confessWhatHangs();
        confessASecond();
        confessOfABoy();
        confessUnknownAheadOfState();
        recantUnknown();
        recantState();
        alterUnknown();
        alterWhatHangs();
        alterBeyondNine();
        alterBelowOne();
        matchOutside();
        matchState();
        matchOutsideAheadOfState();
        stitchesState();
        stitchesThirteenth();
        triedUnknown();
        triedFull();
        triedUnknownAheadOfFull();
        weeksTimes();
        weeksSeed();
        weeksWhat();
        weeksState();
        weeksOutsideAheadOfState();
        imageState();
        restoreNone();
        restoreBehindAStation();
        countOutside();
        tellingChangesNothing();
        noneChangesNothing();
        T.end();
    }

    /** How an object came to be as it is when a call is refused: made anew each time. */
    private interface Way {
        ConfessBySize go();
    }

    /** One object is refused twice, its twin never: from then on they tell the same, whatever is called. */
    private static void refused(String why, Way way, Told.Call call, int want) {
        ConfessBySize x = way.go();
        T.due(why, call.on(x), want);
        T.due(why + ", again", call.on(x), want);
        Told.sameEver(T, why, x, way.go());
    }

    /** Refused alike, whatever else has been, with a station. */
    private static void refusedWithOne(String why, Told.Call call, int want) {
        refused(why + ", at first", RefusedTest::fresh, call, want);
        refused(why + ", busy", RefusedTest::busy, call, want);
        refused(why + ", full", RefusedTest::full, call, want);
    }

    /** Refused alike, without a station, too. */
    private static void refusedAnyway(String why, Told.Call call, int want) {
        refused(why + ", no station", RefusedTest::none, call, want);
        refusedWithOne(why, call, want);
    }

    private static ConfessBySize none() {
        return Due.typed("m5");
    }

    private static ConfessBySize fresh() {
        return Due.opened("m50,t40,b50,i93;506503929104");
    }

    /** 0 has 0 and 1 has 1, the boy none, 3 none; the image tells that 0 has 1, and less is tried. */
    private static ConfessBySize busy() {
        ConfessBySize x = fresh();
        x.confess(0, 1);
        x.alter(2, false);
        x.tried(1, 0, true);
        x.image();
        x.recant(0);
        x.confess(0, 0);
        x.confess(1, 1);
        x.alter(2, true);
        x.tried(2, 3, false);
        x.stitches();
        Due.type(x, "m50,t40;50");
        return x;
    }

    private static ConfessBySize full() {
        ConfessBySize x = busy();
        for (int i = 0; i < 4; i++) x.tried(i, i, i == 0);
        for (int i = 0; i < 11; i++) x.stitches();
        Due.type(x, "0123456789012345678");
        return x;
    }

    private static ConfessBySize fullPage() {
        ConfessBySize x = full();
        x.letter('z');
        return x;
    }

    /** Else a refusal would be looked at where there is nothing that it could change. */
    private static void waysAreAsTold() {
        int[] ofFresh = {4, 4, 0, 0, 0, 0, 0, 0, 1, 0};
        int[] ofBusy = {4, 4, 2, 9, 2, 3, 2, 10, 1, 1};
        int[] ofFull = {4, 4, 2, 9, 2, 3, 6, 30, 1, 12};
        for (int what = 0; what <= 9; what++) {
            T.due("fresh: count(" + what + ")", fresh().count(what), ofFresh[what]);
            T.due("busy: count(" + what + ")", busy().count(what), ofBusy[what]);
            T.due("full: count(" + what + ")", fullPage().count(what), ofFull[what]);
        }
        ConfessBySize x = busy();
        T.due("it was another when the image was kept", x.digest() != restored().digest());
        T.due("0 had confessed 1 then", restored().about(0, 4), 1);
    }

    // ---- letter, station

    private static void letterOutside() {
        for (int code : new int[] {LEAST, -1, 0, 31, 127, 128, 255, MOST}) {
            refusedAnyway("letter(" + code + ")", x -> x.letter(code), OUTSIDE);
        }
    }

    private static void letterFull() {
        for (int code : new int[] {32, 'm', 126}) {
            refused("letter(" + code + "), full", RefusedTest::fullPage, x -> x.letter(code), FULL);
        }
    }

    private static void letterOutsideAheadOfFull() {
        for (int code : new int[] {LEAST, -1, 31, 127, MOST}) {
            refused("letter(" + code + "), full", RefusedTest::fullPage, x -> x.letter(code), OUTSIDE);
        }
    }

    private static void stationState() {
        refused("station(), an empty page", RefusedTest::fresh, x -> x.station(), STATE);
        refused("station(), too short", RefusedTest::busy, x -> x.station(), STATE);
        refused("station(), too long", RefusedTest::fullPage, x -> x.station(), STATE);
    }

    private static void stationStateWithoutOne() {
        refused("station(), new", ConfessBySize::new, x -> x.station(), STATE);
        refused("station(), no station", RefusedTest::none, x -> x.station(), STATE);
        refused("station(), a wrong text", () -> Due.typed("m50,m50;50z"), x -> x.station(), STATE);
    }

    // ---- about, as, crime

    private static void aboutUnknown() {
        for (int person : new int[] {LEAST, -1, 4, MOST}) {
            refusedAnyway("about(" + person + ", 0)", x -> x.about(person, 0), UNKNOWN);
        }
        refused("about(0, 0)", RefusedTest::none, x -> x.about(0, 0), UNKNOWN);
    }

    private static void aboutOutside() {
        for (int what : new int[] {LEAST, -1, 9, MOST}) {
            refusedWithOne("about(3, " + what + ")", x -> x.about(3, what), OUTSIDE);
        }
    }

    private static void aboutUnknownAheadOfOutside() {
        refusedAnyway("about(4, 9)", x -> x.about(4, 9), UNKNOWN);
        refusedAnyway("about(-1, -1)", x -> x.about(-1, -1), UNKNOWN);
        refused("about(0, 9)", RefusedTest::none, x -> x.about(0, 9), UNKNOWN);
    }

    private static void asUnknown() {
        for (int person : new int[] {LEAST, -1, 4, MOST}) {
            refusedAnyway("as(" + person + ", 0)", x -> x.as(person, 0), UNKNOWN);
        }
        refused("as(0, 0)", RefusedTest::none, x -> x.as(0, 0), UNKNOWN);
    }

    private static void asOutside() {
        for (int kind : new int[] {LEAST, -1, 5, MOST}) {
            refusedWithOne("as(0, " + kind + ")", x -> x.as(0, kind), OUTSIDE);
        }
    }

    private static void asUnknownAheadOfOutside() {
        refusedAnyway("as(4, 5)", x -> x.as(4, 5), UNKNOWN);
        refusedAnyway("as(-1, -1)", x -> x.as(-1, -1), UNKNOWN);
        refused("as(0, 5)", RefusedTest::none, x -> x.as(0, 5), UNKNOWN);
    }

    private static void crimeUnknown() {
        for (int crime : new int[] {LEAST, -1, 4, MOST}) {
            refusedAnyway("crime(" + crime + ", 0)", x -> x.crime(crime, 0), UNKNOWN);
        }
        refused("crime(0, 0)", RefusedTest::none, x -> x.crime(0, 0), UNKNOWN);
    }

    private static void crimeOutside() {
        for (int what : new int[] {LEAST, -1, 6, MOST}) {
            refusedWithOne("crime(3, " + what + ")", x -> x.crime(3, what), OUTSIDE);
        }
    }

    private static void crimeUnknownAheadOfOutside() {
        refusedAnyway("crime(4, 6)", x -> x.crime(4, 6), UNKNOWN);
        refusedAnyway("crime(-1, -1)", x -> x.crime(-1, -1), UNKNOWN);
        refused("crime(0, 6)", RefusedTest::none, x -> x.crime(0, 6), UNKNOWN);
    }

    // ---- confess: "it does not FIT him, or it HANGS on somebody, or he has CONFESSED one, or is a BOY"

    private static void confessUnknown() {
        for (int no : new int[] {LEAST, -1, 4, MOST}) {
            refusedAnyway("confess(" + no + ", 0)", x -> x.confess(no, 0), UNKNOWN);
            refusedAnyway("confess(0, " + no + ")", x -> x.confess(0, no), UNKNOWN);
            refusedAnyway("confess(" + no + ", " + no + ")", x -> x.confess(no, no), UNKNOWN);
        }
        refused("confess(0, 0)", RefusedTest::none, x -> x.confess(0, 0), UNKNOWN);
    }

    private static void confessOfAnotherSize() {
        refused("too large", () -> Due.opened("m50,m50;701401"), x -> x.confess(0, 0), STATE);
        refused("too small", () -> Due.opened("m50,m50;301401"), x -> x.confess(0, 0), STATE);
        refused("let out", RefusedTest::letOut, x -> x.confess(0, 0), STATE);
    }

    private static ConfessBySize letOut() {
        ConfessBySize x = Due.opened("m50,m50;601401");
        x.alter(0, true);
        return x;
    }

    private static void confessOfAnotherHand() {
        refused("another hand", () -> Due.opened("m50,m51;511501"), x -> x.confess(0, 0), STATE);
        refused("another hand, of the other", () -> Due.opened("m50,m51;511501"), x -> x.confess(1, 1), STATE);
    }

    /** 3 has confessed none and is none, and it would fit him. */
    private static void confessWhatHangs() {
        refused("it hangs", RefusedTest::oneHangs, x -> x.confess(1, 0), STATE);
        refused("it hangs, on the last", RefusedTest::lastHangs, x -> x.confess(0, 1), STATE);
    }

    private static ConfessBySize oneHangs() {
        ConfessBySize x = Due.opened("m50,m50;501501");
        x.confess(0, 0);
        return x;
    }

    private static ConfessBySize lastHangs() {
        ConfessBySize x = Due.opened("m50,m50,m50,m50;501501");
        x.confess(3, 1);
        return x;
    }

    private static void confessASecond() {
        refused("he has one", RefusedTest::oneHangs, x -> x.confess(0, 1), STATE);
        refused("he has that one", RefusedTest::oneHangs, x -> x.confess(0, 0), STATE);
        refused("the last has one", RefusedTest::lastHangs, x -> x.confess(3, 0), STATE);
    }

    private static void confessOfABoy() {
        refusedWithOne("a boy", x -> x.confess(2, 0), STATE);
        refused("a boy whom it fits", () -> Due.opened("m50,b50;501"), x -> x.confess(1, 0), STATE);
    }

    /** A number that names nothing, of one who may not, or of one that hangs. */
    private static void confessUnknownAheadOfState() {
        refused("has one, no such crime", RefusedTest::oneHangs, x -> x.confess(0, 2), UNKNOWN);
        refused("it hangs, no such person", RefusedTest::oneHangs, x -> x.confess(2, 0), UNKNOWN);
        refused("a boy, no such crime", () -> Due.opened("m50,b50;501"), x -> x.confess(1, 1), UNKNOWN);
        refused("fits nobody, no such person", () -> Due.opened("m50,b50;901"), x -> x.confess(2, 0), UNKNOWN);
    }

    // ---- recant, alter

    private static void recantUnknown() {
        for (int person : new int[] {LEAST, -1, 4, MOST}) {
            refusedAnyway("recant(" + person + ")", x -> x.recant(person), UNKNOWN);
        }
        refused("recant(0)", RefusedTest::none, x -> x.recant(0), UNKNOWN);
    }

    private static void recantState() {
        for (int person = 0; person < 4; person++) {
            int who = person;
            refused("recant(" + who + ")", RefusedTest::fresh, x -> x.recant(who), STATE);
        }
        refused("recant(1), another has one", RefusedTest::oneHangs, x -> x.recant(1), STATE);
        refused("recant(2), a boy", RefusedTest::busy, x -> x.recant(2), STATE);
        refused("recant(3), restored", RefusedTest::restored, x -> x.recant(1), STATE);
    }

    private static ConfessBySize restored() {
        ConfessBySize x = busy();
        x.restore();
        return x;
    }

    private static void alterUnknown() {
        for (int crime : new int[] {LEAST, -1, 4, MOST}) {
            refusedAnyway("alter(" + crime + ", true)", x -> x.alter(crime, true), UNKNOWN);
            refusedAnyway("alter(" + crime + ", false)", x -> x.alter(crime, false), UNKNOWN);
        }
        refused("alter(0, true)", RefusedTest::none, x -> x.alter(0, true), UNKNOWN);
    }

    private static void alterWhatHangs() {
        refused("out, it hangs", RefusedTest::busy, x -> x.alter(0, true), STATE);
        refused("in, it hangs", RefusedTest::busy, x -> x.alter(1, false), STATE);
        refused("out, it hangs on the last", RefusedTest::lastHangs, x -> x.alter(1, true), STATE);
    }

    private static void alterBeyondNine() {
        refused("out of 9 at first", RefusedTest::fresh, x -> x.alter(2, true), STATE);
        refused("out of 9 again", RefusedTest::busy, x -> x.alter(2, true), STATE);
    }

    private static void alterBelowOne() {
        refusedWithOne("in from 1", x -> x.alter(3, false), STATE);
    }

    // ---- match, stitches

    private static void matchOutside() {
        for (int what : new int[] {LEAST, -1, 2, 9, 14, MOST}) {
            refusedWithOne("match(" + what + ")", x -> x.match(what), OUTSIDE);
        }
    }

    private static void matchState() {
        for (int what : new int[] {0, 1, 10, 11, 12, 13}) {
            refused("match(" + what + ")", RefusedTest::none, x -> x.match(what), STATE);
        }
    }

    private static void matchOutsideAheadOfState() {
        for (int what : new int[] {LEAST, -1, 2, 9, 14, MOST}) {
            refused("match(" + what + ")", RefusedTest::none, x -> x.match(what), OUTSIDE);
        }
    }

    private static void stitchesState() {
        refused("stitches(), new", ConfessBySize::new, x -> x.stitches(), STATE);
        refused("stitches(), no station", RefusedTest::none, x -> x.stitches(), STATE);
    }

    private static void stitchesThirteenth() {
        refused("stitches(), the 13th", RefusedTest::full, x -> x.stitches(), STATE);
    }

    // ---- tried, weeks

    private static void triedUnknown() {
        for (int no : new int[] {LEAST, -1, 4, MOST}) {
            refusedAnyway("tried(" + no + ", 0, true)", x -> x.tried(no, 0, true), UNKNOWN);
            refusedAnyway("tried(0, " + no + ", false)", x -> x.tried(0, no, false), UNKNOWN);
            refusedAnyway("tried(" + no + ", " + no + ", true)", x -> x.tried(no, no, true), UNKNOWN);
        }
        refused("tried(0, 0, true)", RefusedTest::none, x -> x.tried(0, 0, true), UNKNOWN);
    }

    private static void triedFull() {
        for (int no = 0; no < 4; no++) {
            int who = no;
            refused("the 7th, it fits " + who, RefusedTest::full, x -> x.tried(who, 0, true), FULL);
            refused("the 7th, it does not fit " + who, RefusedTest::full, x -> x.tried(who, 3, false), FULL);
        }
    }

    private static void triedUnknownAheadOfFull() {
        refused("the 7th, no such person", RefusedTest::full, x -> x.tried(4, 0, true), UNKNOWN);
        refused("the 7th, no such crime", RefusedTest::full, x -> x.tried(0, 4, true), UNKNOWN);
        refused("the 7th, person -1", RefusedTest::full, x -> x.tried(-1, 0, false), UNKNOWN);
        refused("the 7th, crime -1", RefusedTest::full, x -> x.tried(0, -1, false), UNKNOWN);
    }

    private static void weeksTimes() {
        for (int times : new int[] {LEAST, -1, 0, 61, MOST}) {
            refusedWithOne("weeks(" + times + ", 5, 0)", x -> x.weeks(times, 5, 0), OUTSIDE);
        }
    }

    private static void weeksSeed() {
        for (int seed : new int[] {LEAST, -2, -1}) {
            refusedWithOne("weeks(9, " + seed + ", 2)", x -> x.weeks(9, seed, 2), OUTSIDE);
        }
    }

    private static void weeksWhat() {
        for (int what : new int[] {LEAST, -1, 3, MOST}) {
            refusedWithOne("weeks(9, 5, " + what + ")", x -> x.weeks(9, 5, what), OUTSIDE);
        }
    }

    private static void weeksState() {
        for (int what = 0; what <= 2; what++) {
            int told = what;
            refused("weeks(60, 5, " + told + ")", RefusedTest::none, x -> x.weeks(60, 5, told), STATE);
        }
    }

    private static void weeksOutsideAheadOfState() {
        refused("weeks(0, 5, 0)", RefusedTest::none, x -> x.weeks(0, 5, 0), OUTSIDE);
        refused("weeks(61, 5, 0)", RefusedTest::none, x -> x.weeks(61, 5, 0), OUTSIDE);
        refused("weeks(1, -1, 0)", RefusedTest::none, x -> x.weeks(1, -1, 0), OUTSIDE);
        refused("weeks(1, 5, -1)", RefusedTest::none, x -> x.weeks(1, 5, -1), OUTSIDE);
        refused("weeks(1, 5, 3)", RefusedTest::none, x -> x.weeks(1, 5, 3), OUTSIDE);
    }

    // ---- image, restore, count

    private static void imageState() {
        refused("image(), new", ConfessBySize::new, x -> x.image(), STATE);
        refused("image(), no station", RefusedTest::none, x -> x.image(), STATE);
    }

    private static void restoreNone() {
        refused("restore(), new", ConfessBySize::new, x -> x.restore(), STATE);
        refused("restore(), no station", RefusedTest::none, x -> x.restore(), STATE);
        refused("restore(), none was kept", RefusedTest::fresh, x -> x.restore(), STATE);
        refused("restore(), none was kept, one hangs", RefusedTest::oneHangs, x -> x.restore(), STATE);
        refused("restore(), none was kept, busy", () -> worked(fresh()), x -> x.restore(), STATE);
    }

    private static void restoreBehindAStation() {
        refused("restore(), the same text", () -> readAgain("m50,t40,b50,i93;506503929104"), x -> x.restore(), STATE);
        refused("restore(), another text", () -> readAgain("m50,t40;506503"), x -> x.restore(), STATE);
    }

    private static ConfessBySize readAgain(String text) {
        ConfessBySize x = busy();
        x.blank();
        Due.type(x, text);
        x.station();
        return worked(x);
    }

    /** What an image would keep, all of it, and no image. */
    private static ConfessBySize worked(ConfessBySize x) {
        x.confess(0, 0);
        x.alter(1, true);
        x.tried(1, 0, true);
        x.tried(0, 1, false);
        x.stitches();
        Due.type(x, "m50");
        return x;
    }

    private static void countOutside() {
        for (int what : new int[] {LEAST, -1, 10, MOST}) {
            refusedAnyway("count(" + what + ")", x -> x.count(what), OUTSIDE);
        }
    }

    // ---- what is no refusal, and changes nothing either

    private static void tellingChangesNothing() {
        Way[] ways = {RefusedTest::none, RefusedTest::fresh, RefusedTest::busy, RefusedTest::fullPage};
        for (Way way : ways) {
            ConfessBySize x = way.go();
            Told.by(x);
            x.weeks(60, MOST, 0);
            Told.sameEver(T, "told before", x, way.go());
        }
    }

    /** "NONE: he is none such (the cast fails)", and stitches() that finds none changes its own count alone. */
    private static void noneChangesNothing() {
        refused("as(0, 1)", RefusedTest::busy, x -> x.as(0, 1), NONE);
        refused("as(3, 4)", RefusedTest::busy, x -> x.as(3, 4), NONE);
        ConfessBySize x = busy();
        ConfessBySize y = busy();
        T.due("stitches()", x.stitches(), NONE);
        T.due("it was done", x.count(9), y.count(9) + 1);
        y.stitches();
        Told.same(T, "stitches()", Told.by(x), Told.by(y));
        for (int what = 0; what <= 8; what++) T.due("count(" + what + ")", x.count(what), busy().count(what));
    }
}
