/** Promises 14 to 16, and what about() tells of what is tried: tried, forget, weeks, how large, next. */
public final class TriedTest {
    private static final Due T = new Due();

    public static void main(String[] args) {
        howLarge();
        asItWas();
        next();
        sixAtMost();
        forget();
        draws();
        weeks();
        weeksRefuse();
        T.end();
    }

    private static int bits(int from, int to) {
        int bits = 0;
        for (int size = from; size <= to; size++) bits |= 1 << (size - 1);
        return bits;
    }

    private static void large(String who, String crime, int whenItFits, int whenItDoesNot) {
        String text = who + ",m10;" + crime;
        ConfessBySize x = Due.opened(text);
        T.due("tried", x.tried(0, 0, true), 1);
        T.due("it fits, in " + text, x.about(0, 7), whenItFits);
        T.due("the other one is not told of", x.about(1, 7), 511);
        x.forget();
        x.tried(0, 0, false);
        T.due("it does not, in " + text, x.about(0, 7), whenItDoesNot);
    }

    private static void howLarge() {
        large("m10", "501", bits(4, 6), 511 - bits(4, 6));
        large("t10", "501", bits(3, 7), 511 - bits(3, 7));
        large("b10", "501", bits(5, 5), 511 - bits(5, 5));
        large("i10", "501", bits(3, 5), 511 - bits(3, 5));
        large("h12", "501", bits(3, 7), 511 - bits(3, 7));
        large("m10", "511", 0, 511);
        large("m10", "101", bits(1, 2), 511 - bits(1, 2));
        large("m10", "901", bits(8, 9), 511 - bits(8, 9));
        large("i10", "101", bits(1, 1), 511 - bits(1, 1));
        large("i10", "901", bits(7, 9), 511 - bits(7, 9));
        ConfessBySize x = Due.opened("m10,t10;501601301");
        x.tried(0, 0, true);
        x.tried(0, 1, false);
        T.due("two on him", x.about(0, 7), bits(4, 4));
        x.tried(1, 2, true);
        T.due("one on another", x.about(1, 7), bits(1, 5));
        T.due("his stay", x.about(0, 7), bits(4, 4));
        x.tried(0, 1, true);
        T.due("they contradict", x.about(0, 7), 0);
    }

    private static void asItWas() {
        ConfessBySize x = Due.opened("m50,m10;501");
        x.tried(0, 0, true);
        x.alter(0, true);
        x.alter(0, true);
        T.due("as large as it was", x.about(0, 7), bits(4, 6));
        x.tried(0, 0, true);
        T.due("and as it is", x.about(0, 7), bits(6, 6));
        x.alter(0, false);
        x.alter(0, false);
        x.confess(0, 0);
        T.due("one that hangs is tried, too", x.tried(0, 0, false), 3);
        T.due("he is none then", x.about(0, 7), 0);
    }

    private static void next(String text, int want) {
        T.due("next of " + text, Due.opened(text).about(0, 8), want);
    }

    private static void next() {
        // a tailor: 9 sizes; one of 5 parts them 5 and 4, one of 9 parts them 3 and 6
        next("t50,m10;901501", 1);
        next("t50,m10;501901", 0);
        next("t50,m10;401501601", 0);
        next("t50,m10;511901", 1);
        next("m50,m10;511521", 0);
        next("m50,m10;901101501", 2);
        next("b50,m10;901101501", 0);
        next("i50,m10;101201", 1);
        next("h50,m10;931531", 1);
        ConfessBySize x = Due.opened("m50,m10;501601");
        x.tried(0, 0, true);
        T.due("one parts what is left", x.about(0, 8), 1);
        x.tried(0, 1, true);
        x.alter(1, true);
        T.due("as it is now", x.about(0, 8), 1);
        x.tried(0, 1, false);
        T.due("one size is left", x.about(0, 7), bits(5, 5));
        T.due("all are like then", x.about(0, 8), 0);
        x.tried(0, 0, false);
        T.due("none is left", x.about(0, 7), 0);
        T.due("no next", x.about(0, 8), ConfessBySize.NONE);
        T.due("next of another", x.about(1, 8), 0);
        ConfessBySize y = Due.opened("t50,t50;501901");
        y.confess(0, 0);
        T.due("one that hangs is next all the same", y.about(1, 8), 0);
    }

    private static void sixAtMost() {
        ConfessBySize x = Due.opened("m50,m10;501");
        for (int i = 1; i <= 6; i++) T.due("tried " + i, x.tried(i % 2, 0, i % 2 == 0), i);
        long before = x.digest();
        T.due("the 7th", x.tried(0, 0, true), ConfessBySize.FULL);
        T.due("unknown ahead of full, person", x.tried(2, 0, true), ConfessBySize.UNKNOWN);
        T.due("unknown ahead of full, crime", x.tried(0, 1, true), ConfessBySize.UNKNOWN);
        T.due("refused changes nothing", x.digest(), before);
        T.due("six are", x.count(6), 6);
    }

    private static void forget() {
        ConfessBySize x = Due.opened("m50,m10;501");
        T.due("nothing to forget", x.forget(), 0);
        x.tried(0, 0, true);
        x.tried(1, 0, true);
        T.due("two were", x.forget(), 2);
        T.due("none is", x.count(6), 0);
        T.due("all are left", x.about(0, 7), 511);
        T.due("again", x.forget(), 0);
        for (int i = 0; i < 6; i++) x.tried(0, 0, true);
        T.due("six were", x.forget(), 6);
        T.due("tried again", x.tried(1, 0, false), 1);
    }

    /** The rest by 2 to the 31, by dividing; 64 bits hold all of it. */
    private static long seedAfter(long seed) {
        return (1103515245L * seed + 12345L) % 2147483648L;
    }

    private static void draws() {
        ConfessBySize x = Due.opened("m50,m10;501");
        for (int seed : new int[] {0, 1, 65535, 65536, 1234567, Integer.MAX_VALUE}) {
            long last = seed;
            for (int times = 1; times <= 60; times++) {
                last = seedAfter(seedAfter(last));
                if (times < 4 || times > 58) T.due("seed behind " + times, x.weeks(times, seed, 2), last);
            }
        }
    }

    private static void weeks(ConfessBySize x, String run, int[] kinds, int[] rewards, int[] fits, int[] has) {
        long before = x.digest();
        for (int seed = 0; seed < 12; seed++) {
            int[] now = has.clone();
            long last = seed;
            for (int times = 1; times <= 8; times++) {
                last = seedAfter(last);
                int person = (int) (last / 65536 % now.length);
                last = seedAfter(last);
                int crime = (int) (last / 65536 % rewards.length);
                boolean taken = false;
                for (int one : now) taken |= one == crime;
                if (now[person] >= 0) now[person] = -1;
                else if (!taken && kinds[person] != 2 && (fits[person] >> crime & 1) == 1) now[person] = crime;
                int hang = 0;
                int paid = 0;
                for (int one : now) hang += one >= 0 ? 1 : 0;
                for (int one : now) paid += one >= 0 ? rewards[one] : 0;
                T.due(run + ": hang behind " + times + " of " + seed, x.weeks(times, seed, 0), hang);
                T.due(run + ": paid behind " + times + " of " + seed, x.weeks(times, seed, 1), paid);
            }
        }
        T.due(run + ": weeks change nothing", x.digest(), before);
    }

    private static void weeks() {
        int[] kinds = {0, 2, 1};
        int[] rewards = {3, 5, 8};
        weeks(ofWeeks(), "at first", kinds, rewards, new int[] {3, 2, 7}, new int[] {-1, -1, -1});
        ConfessBySize two = ofWeeks();
        two.confess(0, 0);
        two.confess(2, 1);
        weeks(two, "two have confessed", kinds, rewards, new int[] {3, 2, 7}, new int[] {0, -1, 1});
        ConfessBySize letOut = ofWeeks();
        letOut.confess(0, 0);
        letOut.confess(2, 1);
        letOut.alter(2, true);
        weeks(letOut, "one is let out", kinds, rewards, new int[] {3, 2, 3}, new int[] {0, -1, 1});
    }

    private static ConfessBySize ofWeeks() {
        return Due.opened("m50,b50,t60;403505808");
    }

    private static void weeksRefuse() {
        ConfessBySize x = Due.opened("m50,m10;501");
        ConfessBySize none = new ConfessBySize();
        int[][] outside = {{0, 0, 0}, {-1, 0, 0}, {61, 0, 0}, {1, -1, 0}, {1, Integer.MIN_VALUE, 0}, {1, 0, -1},
            {1, 0, 3}, {Integer.MAX_VALUE, 0, 0}, {Integer.MIN_VALUE, 0, 0}, {1, 0, Integer.MAX_VALUE}};
        long before = x.digest();
        for (int[] o : outside) {
            T.due("outside", x.weeks(o[0], o[1], o[2]), ConfessBySize.OUTSIDE);
            T.due("outside ahead of state", none.weeks(o[0], o[1], o[2]), ConfessBySize.OUTSIDE);
        }
        T.due("no station", none.weeks(60, 0, 2), ConfessBySize.STATE);
        T.due("refused changes nothing", x.digest(), before);
        T.due("60 times is told", x.weeks(60, Integer.MAX_VALUE, 0) >= 0);
    }
}
