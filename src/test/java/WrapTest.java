import java.math.BigInteger;

/** What wraps around: the draws, at the greatest seed and at the ends of 65536, and the digest, as longs. */
public final class WrapTest {
    private static final Due T = new Due();
    private static final int MOST = Integer.MAX_VALUE;
    private static final int[] SEEDS = {0, 1, 2, 65535, 65536, 65537, 131071, 131072, 1073741823, 1073741824, 2147418111,
        2147418112, MOST - 65536, MOST - 2, MOST - 1, MOST};
    private static final String[] THIEF_AMONG_BOYS = {"h50,b50", "b50,h50", "h50,b50,b50", "b50,h50,b50",
        "b50,b50,h50", "h50,b50,b50,b50", "b50,h50,b50,b50", "b50,b50,h50,b50", "b50,b50,b50,h50"};
    private static final String CRIMES = "501503505507";

    public static void main(String[] args) {
        nextSeedOfTheGreatest();
        seedsStayFrom0();
        sixtyOfTheGreatest();
        whoComes();
        whichCrime();
        drawsRoundDown();
        whoRecants();
        crimeIsDrawnForOneWhoRecants();
        digestWraps();
        digestOfNegatives();
        digestKnown();
        T.end();
    }

    // ---- "the next SEED each time: 1103515245 times it and 12345, its rest by 2 to the 31"

    /** With numbers that have no end, so that nothing wraps here. */
    private static BigInteger next(BigInteger seed) {
        BigInteger product = seed.multiply(BigInteger.valueOf(1103515245)).add(BigInteger.valueOf(12345));
        return product.mod(BigInteger.TWO.pow(31));
    }

    private static BigInteger next(int seed, int times) {
        BigInteger last = BigInteger.valueOf(seed);
        for (int i = 0; i < times; i++) last = next(last);
        return last;
    }

    /** "then that by 65536 (rounded down), its rest" */
    private static int drawn(BigInteger seed, int many) {
        return seed.divide(BigInteger.valueOf(65536)).mod(BigInteger.valueOf(many)).intValue();
    }

    private static void nextSeedOfTheGreatest() {
        ConfessBySize x = Due.opened("m50,m10;501");
        T.due("weeks(1, greatest, 2)", x.weeks(1, MOST, 2), 288979989);
        T.due("weeks(1, 0, 2)", x.weeks(1, 0, 2), 1406932606);
        for (int seed : SEEDS) {
            T.due("weeks(1, " + seed + ", 2)", x.weeks(1, seed, 2), next(seed, 2).intValue());
        }
    }

    private static void seedsStayFrom0() {
        ConfessBySize x = Due.opened("m50,m10;501");
        for (int seed : SEEDS) {
            for (int times = 1; times <= 20; times++) {
                T.due("from 0", x.weeks(times, seed, 2) >= 0);
            }
        }
    }

    private static void sixtyOfTheGreatest() {
        ConfessBySize x = Due.opened("m50,m10;501");
        for (int seed : SEEDS) {
            T.due("weeks(60, " + seed + ", 2)", x.weeks(60, seed, 2), next(seed, 120).intValue());
            T.due("weeks(59, " + seed + ", 2)", x.weeks(59, seed, 2), next(seed, 118).intValue());
        }
    }

    /** "one by a DRAW of how many there are comes": he is drawn ahead of the crime; if he is the thief, it hangs. */
    private static void whoComes() {
        for (String people : THIEF_AMONG_BOYS) whoComes(people, SEEDS);
    }

    private static void whoComes(String people, int... seeds) {
        int many = (people.length() + 1) / 4;
        int thief = people.indexOf('h') / 4;
        ConfessBySize x = Due.opened(people + ";501");
        for (int seed : seeds) {
            int want = drawn(next(seed, 1), many) == thief ? 1 : 0;
            T.due("weeks(1, " + seed + ", 0) of " + people, x.weeks(1, seed, 0), want);
        }
    }

    /** "for the CRIME by a DRAW of how many there are": the reward tells which it was. */
    private static void whichCrime() {
        for (int many = 1; many <= 4; many++) whichCrime(many, SEEDS);
    }

    private static void whichCrime(int many, int... seeds) {
        ConfessBySize x = Due.opened("h50,h50,h50,h50;" + CRIMES.substring(0, 3 * many));
        for (int seed : seeds) {
            int want = 1 + 2 * drawn(next(seed, 2), many);
            T.due("weeks(1, " + seed + ", 1) of " + many, x.weeks(1, seed, 1), want);
        }
    }

    /** "by 65536 (rounded down)": draws at a multiple of it, and one below, where the number drawn is another. */
    private static void drawsRoundDown() {
        for (int multiple : new int[] {0, 1, 2, 3, 4, 5, 16384, 32766, 32767}) {
            for (int off = -1; off <= 1; off++) {
                BigInteger at = BigInteger.valueOf(65536L * multiple + off).mod(BigInteger.TWO.pow(31));
                int first = before(at).intValue();
                T.due("the seed ahead", next(first, 1).intValue(), at.intValue());
                for (String people : THIEF_AMONG_BOYS) whoComes(people, first);
                for (int many = 1; many <= 4; many++) whichCrime(many, before(before(at)).intValue());
            }
        }
    }

    /** Of which seed this is the next one: 1103515245 is odd, so there is one alone. */
    private static BigInteger before(BigInteger seed) {
        BigInteger all = BigInteger.TWO.pow(31);
        BigInteger back = BigInteger.valueOf(1103515245).modInverse(all);
        return seed.subtract(BigInteger.valueOf(12345)).multiply(back).mod(all);
    }

    /** "if he has CONFESSED one he RECANTS", whichever crime he came for. */
    private static void whoRecants() {
        for (int many = 1; many <= 4; many++) {
            ConfessBySize x = Due.opened("b50,h50,b50;" + CRIMES.substring(0, 3 * many));
            x.confess(1, many - 1);
            for (int seed : SEEDS) {
                int want = drawn(next(seed, 1), 3) == 1 ? 0 : 1;
                T.due("weeks(1, " + seed + ", 0) of " + many, x.weeks(1, seed, 0), want);
            }
        }
    }

    /** So many draws are made whatever comes of them: two each time. */
    private static void crimeIsDrawnForOneWhoRecants() {
        ConfessBySize x = Due.opened("h50,h50;501503");
        x.confess(0, 0);
        x.confess(1, 1);
        for (int seed : SEEDS) {
            T.due("weeks(2, " + seed + ", 2)", x.weeks(2, seed, 2), next(seed, 4).intValue());
            int first = drawn(next(seed, 1), 2);
            int second = drawn(next(seed, 3), 2);
            int crime = drawn(next(seed, 4), 2);
            int want = first != second ? 0 : crime == first ? 2 : 1;
            T.due("weeks(2, " + seed + ", 0)", x.weeks(2, seed, 0), want);
        }
    }

    // ---- promise 20: "31 times h, and it (as longs, wrapping)"

    private static BigInteger unwrapped(ConfessBySize x, String page) {
        BigInteger h = BigInteger.valueOf(1009);
        for (int p = 0; p < x.count(0); p++) {
            for (int what = 0; what <= 8; what++) h = mixed(h, x.about(p, what));
        }
        for (int c = 0; c < x.count(1); c++) {
            for (int what = 0; what <= 5; what++) h = mixed(h, x.crime(c, what));
        }
        int[] ofMatch = x.count(0) > 0 ? new int[] {0, 1, 10, 11, 12, 13} : new int[0];
        for (int what : ofMatch) h = mixed(h, x.match(what));
        for (int i = 0; i < page.length(); i++) h = mixed(h, page.charAt(i));
        for (int what = 0; what <= 9; what++) h = mixed(h, x.count(what));
        return h;
    }

    private static BigInteger mixed(BigInteger h, int number) {
        return h.multiply(BigInteger.valueOf(31)).add(BigInteger.valueOf(number));
    }

    /** The last 64 bits, the first of them as the sign. */
    private static long wrapped(BigInteger h) {
        BigInteger all = BigInteger.TWO.pow(64);
        BigInteger rest = h.mod(all);
        boolean isNegative = rest.testBit(63);
        return (isNegative ? rest.subtract(all) : rest).longValueExact();
    }

    private static void digestWraps() {
        String[] texts = {"m50,m50;501", "m50,t50,b50;501502503", "m50,t50,i50,h50;501502503504"};
        boolean isBelow = false;
        boolean isAbove = false;
        for (String text : texts) {
            for (int letters = 0; letters <= 30; letters += 3) {
                ConfessBySize x = Due.opened(text);
                String page = "~m5,;0 !z".repeat(4).substring(0, letters);
                Due.type(x, page);
                BigInteger whole = unwrapped(x, page);
                T.due("it is too large for a long", whole.bitLength() > 64);
                T.due("digest() of " + text + " and " + page, x.digest(), wrapped(whole));
                isBelow |= x.digest() < 0;
                isAbove |= x.digest() > 0;
            }
        }
        T.due("some are below 0", isBelow);
        T.due("some are above 0", isAbove);
    }

    /** NONE is -1 in it, and is taken as that, not as 0 nor as a large one. */
    private static void digestOfNegatives() {
        ConfessBySize x = Due.opened("b50,b51;923");
        T.due("no match", x.match(10), -1);
        T.due("no halves", x.crime(0, 5), -1);
        T.due("none confessed", x.about(0, 4), -1);
        T.due("digest()", x.digest(), wrapped(unwrapped(x, "")));
        x.tried(0, 0, true);
        T.due("no next", x.about(0, 8), -1);
        T.due("digest() then", x.digest(), wrapped(unwrapped(x, "")));
    }

    /** Written down as numbers: worked out apart from the class. */
    private static void digestKnown() {
        T.due("digest() of a new object", new ConfessBySize().digest(), 827004941563628209L);
        T.due("digest() of a page of 30", Due.typed("~".repeat(30)).digest(), -7346247261230588977L);
        T.due("digest() of a station", Due.opened("m50,m50;501").digest(), -4494234054063612123L);
    }
}
