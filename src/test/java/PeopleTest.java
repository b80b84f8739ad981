/** Promises 6 to 11: about, as, crime, confess, recant, alter. */
public final class PeopleTest {
    private static final Due T = new Due();
    private static final String LETTERS = "mtbih";
    private static final int[] BEARS = {1, 2, 0, 1, 2};

    public static void main(String[] args) {
        told();
        kinds();
        fitsByKind();
        fitBits();
        crimes();
        halves();
        confess();
        recant();
        alter();
        outsideNumbers();
        T.end();
    }

    private static void told() {
        ConfessBySize x = Due.opened("m10,t91,i22,h33;101939");
        int[] kinds = {0, 1, 3, 4};
        int[] sizes = {1, 9, 2, 3};
        int[] bears = {1, 2, 1, 2};
        for (int person = 0; person < 4; person++) {
            T.due("kind of " + person, x.about(person, 0), kinds[person]);
            T.due("size of " + person, x.about(person, 1), sizes[person]);
            T.due("hand of " + person, x.about(person, 2), person);
            T.due("bears of " + person, x.about(person, 3), bears[person]);
            T.due("confessed by " + person, x.about(person, 4), ConfessBySize.NONE);
            T.due("paid to " + person, x.about(person, 5), 0);
            T.due("how large is " + person, x.about(person, 7), 511);
        }
        ConfessBySize boy = Due.opened("b10,b91;101");
        T.due("kind of a boy", boy.about(0, 0), 2);
        T.due("a boy bears", boy.about(0, 3), 0);
    }

    private static void kinds() {
        boolean[][] is = {
            {true, false, false, false, false},
            {true, true, false, false, false},
            {true, false, true, false, false},
            {true, false, false, true, false},
            {true, true, false, false, true}};
        for (int own = 0; own < 5; own++) {
            ConfessBySize x = Due.opened("m10," + LETTERS.charAt(own) + "50;101");
            T.due("its own number", x.about(1, 0), own);
            for (int kind = 0; kind < 5; kind++) {
                T.due(own + " as " + kind, x.as(1, kind), is[own][kind] ? 1 : ConfessBySize.NONE);
            }
            T.due("as(1, -1)", x.as(1, -1), ConfessBySize.OUTSIDE);
            T.due("as(1, 5)", x.as(1, 5), ConfessBySize.OUTSIDE);
            T.due("as(2, 5)", x.as(2, 5), ConfessBySize.UNKNOWN);
            T.due("as(-1, 0)", x.as(-1, 0), ConfessBySize.UNKNOWN);
        }
    }

    private static boolean fits(int kind, int size, int hand, int crimeSize, int crimeHand) {
        int counts = kind == 3 ? size + 1 : size;
        boolean alike = kind == 4 || hand == crimeHand;
        return alike && crimeSize >= counts - BEARS[kind] && crimeSize <= counts + BEARS[kind];
    }

    /** Every kind, size and crime's size, with a hand that is alike and one that is not. */
    private static void fitsByKind() {
        for (int kind = 0; kind < 5; kind++) {
            for (int size = 1; size <= 9; size++) {
                for (int crimeSize = 1; crimeSize <= 9; crimeSize++) {
                    for (int hand = 0; hand < 2; hand++) oneFits(kind, size, crimeSize, hand);
                }
            }
        }
    }

    private static void oneFits(int kind, int size, int crimeSize, int crimeHand) {
        String text = "m13," + LETTERS.charAt(kind) + size + "0;" + crimeSize + crimeHand + "7";
        ConfessBySize x = Due.opened(text);
        boolean fit = fits(kind, size, 0, crimeSize, crimeHand);
        T.due("about(1, 6) of " + text, x.about(1, 6), fit ? 1 : 0);
        T.due("crime(0, 4) of " + text, x.crime(0, 4), fit ? 2 : 0);
        boolean paid = fit && kind != 2;
        T.due("confess of " + text, x.confess(1, 0), paid ? 7 : ConfessBySize.STATE);
        T.due("bits do not tell what hangs: " + text, x.about(1, 6), fit ? 1 : 0);
    }

    private static void fitBits() {
        ConfessBySize x = Due.opened("m50,t50,b50,i40;401501601701");
        T.due("man", x.about(0, 6), 7);
        T.due("tailor", x.about(1, 6), 15);
        T.due("boy", x.about(2, 6), 2);
        T.due("irish", x.about(3, 6), 7);
        T.due("crime of 4", x.crime(0, 4), 11);
        T.due("crime of 5", x.crime(1, 4), 15);
        T.due("crime of 6", x.crime(2, 4), 11);
        T.due("crime of 7", x.crime(3, 4), 2);
        x.alter(3, false);
        T.due("man, when one is taken in", x.about(0, 6), 15);
        x.alter(1, true);
        T.due("boy, when one is let out", x.about(2, 6), 0);
    }

    private static void crimes() {
        ConfessBySize x = Due.opened("m10,t91;101939528");
        int[] sizes = {1, 9, 5};
        int[] hands = {0, 3, 2};
        int[] rewards = {1, 9, 8};
        for (int crime = 0; crime < 3; crime++) {
            T.due("size", x.crime(crime, 0), sizes[crime]);
            T.due("hand", x.crime(crime, 1), hands[crime]);
            T.due("reward", x.crime(crime, 2), rewards[crime]);
            T.due("hangs", x.crime(crime, 3), ConfessBySize.NONE);
        }
        x.confess(0, 0);
        T.due("hangs on 0", x.crime(0, 3), 0);
        T.due("hangs on nobody", x.crime(1, 3), ConfessBySize.NONE);
    }

    private static void halves(String text, int want) {
        T.due("halves in " + text, Due.opened(text).crime(0, 5), want);
    }

    private static void halves() {
        halves("m40,m50;901", 1);
        halves("m40,m50;801", ConfessBySize.NONE);
        halves("m40,m50;911", ConfessBySize.NONE);
        halves("m41,m50;911", 1);
        halves("m40,m51;911", 1);
        halves("m40,h50;931", 1);
        halves("h40,m50;931", 1);
        halves("i30,m50;901", 1);
        halves("i30,m50;801", ConfessBySize.NONE);
        halves("i30,i40;901", 1);
        halves("b40,b50;901", 1);
        halves("m10,m20,m30,m40;701", 23);
        halves("m10,m40,m20,m30;501", 1);
        halves("m10,m20,m90,m40;501", 3);
        halves("m10,m20,m90,m40;601", 13);
        halves("m20,m20,m90,m90;401", 1);
        halves("m20,m90,m90,m90;401", ConfessBySize.NONE);
        halves("m90,m90;911", ConfessBySize.NONE);
        ConfessBySize x = Due.opened("m40,m50,b40;401501901");
        x.confess(0, 0);
        x.confess(1, 1);
        T.due("whatever they confessed", x.crime(2, 5), 1);
        x.alter(2, false);
        T.due("as large as it is now", x.crime(2, 5), 2);
    }

    private static void confess() {
        ConfessBySize x = Due.opened("m50,m50,b50,i40;507503509");
        T.due("paid", x.confess(0, 0), 7);
        T.due("it hangs on him", x.crime(0, 3), 0);
        T.due("he has it", x.about(0, 4), 0);
        T.due("his pay", x.about(0, 5), 7);
        T.due("once", x.count(5), 1);
        long before = x.digest();
        T.due("it hangs", x.confess(1, 0), ConfessBySize.STATE);
        T.due("he has one", x.confess(0, 1), ConfessBySize.STATE);
        T.due("he has that one", x.confess(0, 0), ConfessBySize.STATE);
        T.due("a boy", x.confess(2, 1), ConfessBySize.STATE);
        T.due("no such person", x.confess(4, 0), ConfessBySize.UNKNOWN);
        T.due("person -1", x.confess(-1, 0), ConfessBySize.UNKNOWN);
        T.due("no such crime", x.confess(1, 3), ConfessBySize.UNKNOWN);
        T.due("crime -1", x.confess(1, -1), ConfessBySize.UNKNOWN);
        T.due("unknown ahead of state", x.confess(0, 3), ConfessBySize.UNKNOWN);
        T.due("refused changes nothing", x.digest(), before);
        T.due("another pays", x.confess(3, 2), 9);
        T.due("two hang", x.count(2), 2);
        T.due("all are paid", x.count(3), 16);
        T.due("twice", x.count(5), 2);
        ConfessBySize y = Due.opened("m50,m51;701511");
        T.due("too large", y.confess(0, 0), ConfessBySize.STATE);
        T.due("another hand", y.confess(0, 1), ConfessBySize.STATE);
        y.alter(0, false);
        T.due("fits when taken in", y.confess(0, 0), 1);
    }

    private static void recant() {
        ConfessBySize x = Due.opened("m50,m50;507503");
        long before = x.digest();
        T.due("he has none", x.recant(0), ConfessBySize.STATE);
        T.due("no such person", x.recant(2), ConfessBySize.UNKNOWN);
        T.due("person -1", x.recant(-1), ConfessBySize.UNKNOWN);
        T.due("refused changes nothing", x.digest(), before);
        x.confess(0, 1);
        T.due("which it was", x.recant(0), 1);
        T.due("it hangs on nobody", x.crime(1, 3), ConfessBySize.NONE);
        T.due("he has none then", x.about(0, 4), ConfessBySize.NONE);
        T.due("his pay is gone", x.about(0, 5), 0);
        T.due("all pay is gone", x.count(3), 0);
        T.due("he confessed once all the same", x.count(5), 1);
        T.due("again", x.recant(0), ConfessBySize.STATE);
        T.due("another may", x.confess(1, 1), 3);
        T.due("he may another", x.confess(0, 0), 7);
        T.due("three times", x.count(5), 3);
        T.due("which it was, the first", x.recant(0), 0);
    }

    private static void alter() {
        ConfessBySize x = Due.opened("m80,m20;801201");
        T.due("out", x.alter(0, true), 9);
        long before = x.digest();
        T.due("out of 9", x.alter(0, true), ConfessBySize.STATE);
        T.due("refused changes nothing", x.digest(), before);
        T.due("in", x.alter(1, false), 1);
        before = x.digest();
        T.due("in from 1", x.alter(1, false), ConfessBySize.STATE);
        T.due("no such crime", x.alter(2, true), ConfessBySize.UNKNOWN);
        T.due("crime -1", x.alter(-1, true), ConfessBySize.UNKNOWN);
        T.due("refused changes nothing", x.digest(), before);
        T.due("two stitches", x.count(4), 2);
        T.due("size", x.crime(0, 0), 9);
        x.confess(0, 0);
        before = x.digest();
        T.due("it hangs", x.alter(0, false), ConfessBySize.STATE);
        T.due("refused changes nothing", x.digest(), before);
        x.recant(0);
        T.due("in again", x.alter(0, false), 8);
        T.due("three stitches", x.count(4), 3);
    }

    private static void outsideNumbers() {
        ConfessBySize x = Due.opened("m50,t50;501");
        int[] far = {-1, 9, Integer.MIN_VALUE, Integer.MAX_VALUE};
        long before = x.digest();
        for (int what : far) T.due("about(0, " + what + ")", x.about(0, what), ConfessBySize.OUTSIDE);
        for (int what : far) T.due("about(2, " + what + ")", x.about(2, what), ConfessBySize.UNKNOWN);
        for (int who : new int[] {-1, 2, 4, Integer.MIN_VALUE, Integer.MAX_VALUE}) {
            T.due("about(" + who + ", 0)", x.about(who, 0), ConfessBySize.UNKNOWN);
            T.due("as(" + who + ", 0)", x.as(who, 0), ConfessBySize.UNKNOWN);
            T.due("recant(" + who + ")", x.recant(who), ConfessBySize.UNKNOWN);
            T.due("crime(" + who + ", 0)", x.crime(who, 0), ConfessBySize.UNKNOWN);
            T.due("crime(" + who + ", 6)", x.crime(who, 6), ConfessBySize.UNKNOWN);
            T.due("alter(" + who + ")", x.alter(who, true), ConfessBySize.UNKNOWN);
            T.due("confess(" + who + ", 0)", x.confess(who, 0), ConfessBySize.UNKNOWN);
            T.due("confess(0, " + who + ")", x.confess(0, who), ConfessBySize.UNKNOWN);
            T.due("tried(" + who + ", 0)", x.tried(who, 0, true), ConfessBySize.UNKNOWN);
            T.due("tried(0, " + who + ")", x.tried(0, who, true), ConfessBySize.UNKNOWN);
        }
        T.due("crime(1, 0)", x.crime(1, 0), ConfessBySize.UNKNOWN);
        T.due("crime(0, -1)", x.crime(0, -1), ConfessBySize.OUTSIDE);
        T.due("crime(0, 6)", x.crime(0, 6), ConfessBySize.OUTSIDE);
        T.due("as(0, max)", x.as(0, Integer.MAX_VALUE), ConfessBySize.OUTSIDE);
        T.due("as(0, min)", x.as(0, Integer.MIN_VALUE), ConfessBySize.OUTSIDE);
        T.due("refused changes nothing", x.digest(), before);
    }
}
