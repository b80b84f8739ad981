import java.util.function.IntUnaryOperator;

/** Too small, too large: each argument's bounds, a station's, a size's; one below, at, and one above each. */
public final class BoundsTest {
    private static final Due T = new Due();
    private static final int NONE = ConfessBySize.NONE, UNKNOWN = ConfessBySize.UNKNOWN;
    private static final int OUTSIDE = ConfessBySize.OUTSIDE, STATE = ConfessBySize.STATE;
    private static final int[] NUMBERS = {Integer.MIN_VALUE, Integer.MIN_VALUE + 1, -65536, -2, -1, 0, 1, 2, 3, 4, 5,
        6, 7, 8, 9, 10, 11, 12, 13, 14, 15, 59, 60, 61, 62, 255, 256, 65536, Integer.MAX_VALUE - 1, Integer.MAX_VALUE};
    private static final String KINDS = "mtbih", SIZES = "123456789", HANDS = "0123";

    public static void main(String[] args) {
        codeOfLetter();
        twoToFourPeople();
        commaBetween();
        kindIsALetter();
        sizeOfAPerson();
        handOfAPerson();
        oneToFourCrimes();
        digitsOfACrime();
        placeFromNull();
        personOfAbout();
        whatOfAbout();
        personOfAs();
        kindOfAs();
        crimeOfCrime();
        whatOfCrime();
        numbersOfConfess();
        personOfRecant();
        crimeOfAlter();
        whatOfMatch();
        numbersOfTried();
        timesOfWeeks();
        seedOfWeeks();
        whatOfWeeks();
        whatOfCount();
        fewerThanBefore();
        T.end();
    }

    private interface Numbered {
        int on(ConfessBySize x, int number);
    }

    /** What a call answers for each number: what is wanted from low to high, and a refusal for any other. */
    private static void within(String call, ConfessBySize x, Numbered asked, int low, int high, int refusal,
            IntUnaryOperator want) {
        for (int number : NUMBERS) {
            boolean isIn = number >= low && number <= high;
            int due = isIn ? want.applyAsInt(number) : refusal;
            T.due(call + ", with " + number, asked.on(x, number), due);
        }
    }

    /** People of sizes 1, 2, .. and of hand 0, so that each can be told by his size. */
    private static ConfessBySize withPeople(int many) {
        return Due.opened("m10,t20,b30,h40".substring(0, 4 * many - 1) + ";901");
    }

    /** Crimes of sizes 1, 2, .. that pay 9, 8, .. */
    private static ConfessBySize withCrimes(int many) {
        return Due.opened("m10,b20;" + "109208307406".substring(0, 3 * many));
    }

    // ---- promise 2: "OUTSIDE: code (32 to 126)"

    private static void codeOfLetter() {
        for (int code = -300; code <= 600; code++) {
            ConfessBySize x = new ConfessBySize();
            boolean isIn = code >= 32 && code <= 126;
            T.due("letter(" + code + ")", x.letter(code), isIn ? 1 : OUTSIDE);
            T.due("letters behind letter(" + code + ")", x.count(7), isIn ? 1 : 0);
        }
        for (int far : new int[] {Integer.MIN_VALUE, Integer.MAX_VALUE, 65536 + 'm', -65536 + 'm'}) {
            T.due("letter(" + far + ")", new ConfessBySize().letter(far), OUTSIDE);
        }
    }

    // ---- terms 1, promises 4 and 5: what a station is, and where its fault is

    /** Which letters a station has behind these ahead: fault() tells that place for any other. */
    private static void takes(String ahead, String letters) {
        for (char c = 32; c <= 126; c++) {
            boolean isRight = letters.indexOf(c) >= 0;
            int want = isRight ? ahead.length() + 1 : ahead.length();
            T.due("fault of " + ahead + c, Due.typed(ahead + c).fault(), want);
        }
    }

    private static void reads(String text, int want) {
        T.due("station of " + text, Due.typed(text).station(), want);
    }

    /** "two to four PEOPLE" */
    private static void twoToFourPeople() {
        takes("m10", ",");
        takes("m10,m10", ",;");
        takes("m10,m10,m10", ",;");
        takes("m10,m10,m10,m10", ";");
        reads("m10;101", STATE);
        reads("m10,m10;101", 1);
        reads("m10,m10,m10;101", 1);
        reads("m10,m10,m10,m10;101", 1);
        reads("m10,m10,m10,m10,m10;101", STATE);
        for (int people = 2; people <= 4; people++) T.due("people", withPeople(people).count(0), people);
    }

    /** "with "," between": none ahead of all, none behind all, not two. */
    private static void commaBetween() {
        takes("", KINDS);
        takes("m10,", KINDS);
        takes("m10,m10,", KINDS);
        takes("m10,m10,m10,", KINDS);
        reads(",m10,m10;101", STATE);
        reads("m10,m10,;101", STATE);
        reads("m10,,m10;101", STATE);
        reads("m10m10;101", STATE);
        reads("m10;m10;101", STATE);
    }

    /** "each a letter, the KIND": five letters, and in this order. */
    private static void kindIsALetter() {
        for (int kind = 0; kind < KINDS.length(); kind++) {
            ConfessBySize x = Due.opened("m10," + KINDS.charAt(kind) + "10;101");
            T.due("kind " + KINDS.charAt(kind), x.about(1, 0), kind);
        }
        reads("M10,m10;101", STATE);
        reads("m10,x10;101", STATE);
    }

    /** "SIZE (1 to 9)" */
    private static void sizeOfAPerson() {
        takes("m", SIZES);
        takes("m10,t", SIZES);
        takes("m10,t10,b", SIZES);
        takes("m10,t10,b10,h", SIZES);
        for (int size = 1; size <= 9; size++) {
            ConfessBySize x = Due.opened("m" + size + "0,m" + (10 - size) + "0;101");
            T.due("size " + size, x.about(0, 1), size);
            T.due("size " + (10 - size), x.about(1, 1), 10 - size);
        }
        reads("m00,m10;101", STATE);
        reads("m10,m00;101", STATE);
    }

    /** "HAND (0 to 3)" */
    private static void handOfAPerson() {
        takes("m1", HANDS);
        takes("m10,t1", HANDS);
        takes("m10,t10,b1", HANDS);
        takes("m10,t10,b10,h9", HANDS);
        for (int hand = 0; hand <= 3; hand++) {
            T.due("hand " + hand, Due.opened("m1" + hand + ",m10;101").about(0, 2), hand);
        }
        reads("m14,m10;101", STATE);
        reads("m10,m14;101", STATE);
    }

    /** "one to four CRIMES .. one right behind the other" */
    private static void oneToFourCrimes() {
        takes("m10,m10;", SIZES);
        takes("m10,m10;101", SIZES);
        takes("m10,m10;101101", SIZES);
        takes("m10,m10;101101101", SIZES);
        takes("m10,m10;101101101101", "");
        takes("m10,m10,m10,m10;101101101101", "");
        String longest = "m10,m10,m10,m10;101101101101";
        for (int n = 0; n <= longest.length(); n++) {
            boolean isStation = n > 16 && (n - 16) % 3 == 0;
            reads(longest.substring(0, n), isStation ? (n - 16) / 3 : STATE);
        }
        reads("m10,m10;", STATE);
        reads("m10,m10;101101101101101", STATE);
        reads("m10,m10;1011", STATE);
        reads("m10,m10;10110", STATE);
        reads("m10,m10;101,101", STATE);
        for (int crimes = 1; crimes <= 4; crimes++) T.due("crimes", withCrimes(crimes).count(1), crimes);
    }

    /** "three digits each: SIZE (1 to 9), HAND (0 to 3), REWARD (1 to 9)" */
    private static void digitsOfACrime() {
        for (String ahead : new String[] {"", "101", "939101", "101101101"}) {
            takes("m10,m10;" + ahead, SIZES);
            takes("m10,m10;" + ahead + "9", HANDS);
            takes("m10,m10;" + ahead + "13", "123456789");
        }
        reads("m10,m10;001", STATE);
        reads("m10,m10;141", STATE);
        reads("m10,m10;100", STATE);
        ConfessBySize x = Due.opened("m10,m10;101939");
        int[] want = {1, 0, 1, 9, 3, 9};
        for (int i = 0; i < 6; i++) T.due("a digit told, " + i, x.crime(i / 3, i % 3), want[i]);
    }

    /** Promise 4: "The place (from 0) of the first letter": of two wrong ones the first is told. */
    private static void placeFromNull() {
        T.due("the first place", Due.typed("zm10").fault(), 0);
        T.due("two are wrong", Due.typed("m1z,z").fault(), 2);
        T.due("of a thirtieth letter", Due.typed("m10,m10,m10,m10;101101101101zz").fault(), 28);
        T.due("one that is right elsewhere", Due.typed("m10;m10,m10;101").fault(), 3);
    }

    // ---- promises 6 and 7: about, as

    private static void personOfAbout() {
        for (int many = 2; many <= 4; many++) {
            within("about(person, 1) of " + many, withPeople(many), (x, n) -> x.about(n, 1), 0, many - 1, UNKNOWN,
                    n -> n + 1);
        }
    }

    private static void whatOfAbout() {
        ConfessBySize x = Due.opened("m10,h93;901");
        x.confess(1, 0);
        int[] want = {4, 9, 3, 2, 0, 1, 1, 511, 0};
        within("about(1, what)", x, (y, n) -> y.about(1, n), 0, 8, OUTSIDE, n -> want[n]);
    }

    private static void personOfAs() {
        for (int many = 2; many <= 4; many++) {
            within("as(person, 0) of " + many, withPeople(many), (x, n) -> x.as(n, 0), 0, many - 1, UNKNOWN, n -> n);
        }
    }

    private static void kindOfAs() {
        ConfessBySize x = Due.opened("m10,h10;101");
        int[] want = {1, 1, NONE, NONE, 1};
        within("as(1, kind)", x, (y, n) -> y.as(1, n), 0, 4, OUTSIDE, n -> want[n]);
    }

    // ---- promises 8 to 11: crime, confess, recant, alter

    private static void crimeOfCrime() {
        for (int many = 1; many <= 4; many++) {
            within("crime(crime, 0) of " + many, withCrimes(many), (x, n) -> x.crime(n, 0), 0, many - 1, UNKNOWN,
                    n -> n + 1);
        }
    }

    private static void whatOfCrime() {
        ConfessBySize x = Due.opened("m43,h50;929");
        x.confess(1, 0);
        x.recant(1);
        int[] want = {9, 2, 9, NONE, 0, 1};
        within("crime(0, what)", x, (y, n) -> y.crime(0, n), 0, 5, OUTSIDE, n -> want[n]);
    }

    private static void numbersOfConfess() {
        for (int many = 2; many <= 4; many++) {
            within("confess(person, 0) of " + many, withPeople(many), (x, n) -> x.confess(n, 0), 0, many - 1, UNKNOWN,
                    n -> STATE);
        }
        for (int many = 1; many <= 4; many++) {
            within("confess(1, crime) of " + many, withCrimes(many), (x, n) -> x.confess(1, n), 0, many - 1, UNKNOWN,
                    n -> STATE);
        }
        T.due("confess(3, 3)", Due.opened("m10,m10,m10,m90;101101101909").confess(3, 3), 9);
        T.due("confess(0, 0)", Due.opened("m10,m90;101909").confess(0, 0), 1);
    }

    private static void personOfRecant() {
        for (int many = 2; many <= 4; many++) {
            within("recant(person) of " + many, withPeople(many), (x, n) -> x.recant(n), 0, many - 1, UNKNOWN,
                    n -> STATE);
        }
        ConfessBySize x = Due.opened("m10,m10,m10,m90;101101101909");
        x.confess(3, 3);
        x.confess(0, 0);
        T.due("recant(3)", x.recant(3), 3);
        T.due("recant(0)", x.recant(0), 0);
    }

    private static void crimeOfAlter() {
        for (int many = 1; many <= 4; many++) {
            within("alter(crime, true) of " + many, withCrimes(many), (x, n) -> x.alter(n, true), 0, many - 1, UNKNOWN,
                    n -> n + 2);
            ConfessBySize hanging = withCrimes(many);
            hanging.confess(0, 0);
            within("alter(crime, false) of " + many, hanging, (x, n) -> x.alter(n, false), 0, many - 1, UNKNOWN,
                    n -> n == 0 ? STATE : n);
        }
    }

    // ---- promise 12: match

    /** "0 how many, 1 how much REWARD, 10 to 13": neither between nor beyond; "of one that there is not, too" */
    private static void whatOfMatch() {
        ConfessBySize x = Due.opened("m10,m50;509101");
        int[] want = {2, 10, OUTSIDE, OUTSIDE, OUTSIDE, OUTSIDE, OUTSIDE, OUTSIDE, OUTSIDE, OUTSIDE, 1, 0, NONE, NONE};
        within("match(what) of two", x, (y, n) -> y.match(n), 0, 13, OUTSIDE, n -> want[n]);
        ConfessBySize four = Due.opened("m10,m30,m50,m70;707505303101");
        int[] all = {4, 16, OUTSIDE, OUTSIDE, OUTSIDE, OUTSIDE, OUTSIDE, OUTSIDE, OUTSIDE, OUTSIDE, 3, 2, 1, 0};
        within("match(what) of four", four, (y, n) -> y.match(n), 0, 13, OUTSIDE, n -> all[n]);
    }

    // ---- promises 14 and 16: tried, weeks

    private static void numbersOfTried() {
        for (int many = 2; many <= 4; many++) {
            within("tried(person, 0, true) of " + many, withPeople(many), BoundsTest::triedAlone, 0, many - 1, UNKNOWN,
                    n -> 1);
        }
        for (int many = 1; many <= 4; many++) {
            within("tried(1, crime, false) of " + many, withCrimes(many), BoundsTest::crimeTriedAlone, 0, many - 1,
                    UNKNOWN, n -> 1);
        }
    }

    private static int triedAlone(ConfessBySize x, int person) {
        x.forget();
        return x.tried(person, 0, true);
    }

    private static int crimeTriedAlone(ConfessBySize x, int crime) {
        x.forget();
        return x.tried(1, crime, false);
    }

    /** "times (1 to 60)": the seed then tells how many times it was. */
    private static void timesOfWeeks() {
        long[] seeds = new long[61];
        for (int times = 1; times <= 60; times++) seeds[times] = twiceOn(seeds[times - 1]);
        ConfessBySize x = Due.opened("m50,m10;501");
        within("weeks(times, 0, 2)", x, (y, n) -> y.weeks(n, 0, 2), 1, 60, OUTSIDE, n -> (int) seeds[n]);
    }

    private static long twiceOn(long seed) {
        long once = Math.floorMod(1103515245L * seed + 12345L, 1L << 31);
        return Math.floorMod(1103515245L * once + 12345L, 1L << 31);
    }

    /** "seed (0 at least)" */
    private static void seedOfWeeks() {
        ConfessBySize x = Due.opened("m50,m10;501");
        within("weeks(1, seed, 2)", x, (y, n) -> y.weeks(1, n, 2), 0, Integer.MAX_VALUE, OUTSIDE,
                n -> (int) twiceOn(n));
    }

    private static void whatOfWeeks() {
        ConfessBySize x = Due.opened("t50,t50;507");
        int[] want = {1, 7, (int) twiceOn(0)};
        within("weeks(1, 0, what)", x, (y, n) -> y.weeks(1, 0, n), 0, 2, OUTSIDE, n -> want[n]);
    }

    // ---- promise 19: count

    private static void whatOfCount() {
        ConfessBySize x = Due.opened("m50,m10,b50;507109");
        x.confess(0, 0);
        x.alter(1, true);
        x.tried(0, 0, true);
        x.tried(1, 0, true);
        x.stitches();
        Due.type(x, "m1");
        int[] want = {3, 2, 1, 7, 1, 1, 2, 2, 1, 1};
        within("count(what)", x, (y, n) -> y.count(n), 0, 9, OUTSIDE, n -> want[n]);
    }

    /** Numbers of people and crimes that were, before a lesser station was read, name nothing. */
    private static void fewerThanBefore() {
        ConfessBySize x = Due.opened("m10,m20,m30,m40;101201301401");
        x.confess(3, 3);
        x.confess(2, 2);
        x.tried(3, 3, true);
        Due.type(x, "t50,t60;601");
        x.station();
        within("about(person, 1) of fewer", x, (y, n) -> y.about(n, 1), 0, 1, UNKNOWN, n -> n + 5);
        within("crime(crime, 0) of fewer", x, (y, n) -> y.crime(n, 0), 0, 0, UNKNOWN, n -> 6);
        T.due("as(2, 0)", x.as(2, 0), UNKNOWN);
        T.due("confess(2, 0)", x.confess(2, 0), UNKNOWN);
        T.due("confess(0, 1)", x.confess(0, 1), UNKNOWN);
        T.due("recant(3)", x.recant(3), UNKNOWN);
        T.due("alter(3, true)", x.alter(3, true), UNKNOWN);
        T.due("tried(2, 0, true)", x.tried(2, 0, true), UNKNOWN);
        T.due("tried(0, 1, true)", x.tried(0, 1, true), UNKNOWN);
        T.due("match(12)", x.match(12), NONE);
        T.due("match(0)", x.match(0), 1);
        T.due("fitting people", x.crime(0, 4), 3);
        T.due("fitting crimes", x.about(0, 6), 1);
        T.due("that hang", x.count(2), 0);
    }
}
