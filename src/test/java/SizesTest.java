/** Sizes at their ends, how far off one can bear, and the least and the most of people and crimes at once. */
public final class SizesTest {
    private static final Due T = new Due();
    private static final int NONE = ConfessBySize.NONE, STATE = ConfessBySize.STATE;
    private static final String KINDS = "mtbih";

    public static void main(String[] args) {
        manBearsOne();
        tailorBearsTwo();
        boyBearsNothing();
        irishCountsOneMore();
        thiefBearsTwoOfAnyHand();
        handsAlike();
        bitsOfTwoAndFour();
        bitsOfFourAndOne();
        alteredFromOneToNine();
        alteredByOne();
        alteredOnNobodyAlone();
        stitchesByNoneOneOrTwo();
        stitchesAtOneAndNine();
        stitchesOfAll();
        stitchesOneEach();
        stitchesTheFewest();
        stitchesInAll();
        stitchesOfTheLast();
        stitchesOfThoseLeft();
        stitchesAlterNothing();
        halvesJustAsMuch();
        halvesOfTheIrish();
        halvesByOneHand();
        halvesOfEachCrime();
        halvesOfAnyTwo();
        halvesTheLeast();
        largeFromOneToNine();
        largeByHand();
        nextAtWorst();
        nextTheLeast();
        matchOfTwoAndOne();
        matchOfTwoAndFour();
        matchOfFourAndOne();
        matchOfFourAndFour();
        matchManyAheadOfReward();
        matchFirstByNumbers();
        T.end();
    }

    // ---- terms 1: "its SIZE is no farther off his than he can BEAR"

    /** Of one of this size, and for each size of a crime: it fits from low to high alone. */
    private static void fits(String who, int crimeHand, int low, int high) {
        for (int size = 1; size <= 9; size++) {
            int another = (crimeHand + 1) % 4;
            String text = "m1" + another + "," + who + ";" + size + crimeHand + "5";
            ConfessBySize x = Due.opened(text);
            boolean isFit = size >= low && size <= high;
            T.due("fits in " + text, x.about(1, 6), isFit ? 1 : 0);
            T.due("whom it fits in " + text, x.crime(0, 4), isFit ? 2 : 0);
            boolean isBoy = who.charAt(0) == 'b';
            T.due("confess in " + text, x.confess(1, 0), isFit && !isBoy ? 5 : STATE);
        }
    }

    private static void manBearsOne() {
        fits("m10", 0, 1, 2);
        fits("m50", 0, 4, 6);
        fits("m90", 0, 8, 9);
    }

    private static void tailorBearsTwo() {
        fits("t10", 0, 1, 3);
        fits("t20", 0, 1, 4);
        fits("t50", 0, 3, 7);
        fits("t80", 0, 6, 9);
        fits("t90", 0, 7, 9);
    }

    private static void boyBearsNothing() {
        fits("b10", 0, 1, 1);
        fits("b50", 0, 5, 5);
        fits("b90", 0, 9, 9);
    }

    /** "an IRISH one's SIZE counts 1 more": of 9 it counts 10, of 1 it counts 2. */
    private static void irishCountsOneMore() {
        fits("i10", 0, 1, 3);
        fits("i50", 0, 5, 7);
        fits("i80", 0, 8, 9);
        fits("i90", 0, 9, 9);
        T.due("size as told", Due.opened("i90,m10;101").about(0, 1), 9);
    }

    private static void thiefBearsTwoOfAnyHand() {
        for (int hand = 0; hand <= 3; hand++) {
            fits("h11", hand, 1, 3);
            fits("h51", hand, 3, 7);
            fits("h91", hand, 7, 9);
        }
    }

    /** "their HANDS are alike (a THIEF's is like any)": of the others each is like its own alone. */
    private static void handsAlike() {
        for (int kind = 0; kind < KINDS.length(); kind++) {
            for (int own = 0; own <= 3; own++) {
                for (int hand = 0; hand <= 3; hand++) {
                    int size = kind == 3 ? 6 : 5;
                    String text = KINDS.charAt(kind) + "5" + own + ",m10;" + size + hand + "1";
                    boolean isFit = own == hand || kind == 4;
                    T.due("fits in " + text, Due.opened(text).about(0, 6), isFit ? 1 : 0);
                }
            }
        }
    }

    // ---- promises 6 and 8: "which CRIMES FIT him, as bits", "whom it FITS, as bits"

    private static void bitsOfTwoAndFour() {
        ConfessBySize x = Due.opened("m50,b50;901801601501");
        T.due("the last two fit the man", x.about(0, 6), 12);
        T.due("the last fits the boy", x.about(1, 6), 8);
        int[] want = {0, 0, 1, 3};
        for (int c = 0; c < 4; c++) T.due("whom " + c + " fits", x.crime(c, 4), want[c]);
        T.due("all four fit", Due.opened("t50,t50;701601401301").about(1, 6), 15);
    }

    private static void bitsOfFourAndOne() {
        ConfessBySize x = Due.opened("m50,m60,m70,m80;801");
        T.due("it fits the last two", x.crime(0, 4), 12);
        int[] want = {0, 0, 1, 1};
        for (int p = 0; p < 4; p++) T.due("what fits " + p, x.about(p, 6), want[p]);
        T.due("it fits all four", Due.opened("m50,t50,b50,i50;501").crime(0, 4), 15);
    }

    // ---- terms 1: "A CRIME is ALTERED by 1 (let out, or taken in; 1 to 9), while it HANGS on nobody: a STITCH"

    private static void alteredFromOneToNine() {
        for (int size = 1; size <= 9; size++) {
            ConfessBySize out = Due.opened("m10,m10;" + size + "01");
            T.due("let out from " + size, out.alter(0, true), size < 9 ? size + 1 : STATE);
            T.due("its size then", out.crime(0, 0), Math.min(size + 1, 9));
            T.due("a stitch, or none", out.count(4), size < 9 ? 1 : 0);
            ConfessBySize in = Due.opened("m10,m10;" + size + "01");
            T.due("taken in from " + size, in.alter(0, false), size > 1 ? size - 1 : STATE);
            T.due("its size then", in.crime(0, 0), Math.max(size - 1, 1));
            T.due("a stitch, or none", in.count(4), size > 1 ? 1 : 0);
        }
    }

    /** From 1 to 9 and back, of one crime of two: the other's size stays, and each is a stitch. */
    private static void alteredByOne() {
        ConfessBySize x = Due.opened("m10,m10;501101");
        for (int size = 2; size <= 9; size++) T.due("out to " + size, x.alter(1, true), size);
        T.due("no farther", x.alter(1, true), STATE);
        for (int size = 8; size >= 1; size--) T.due("in to " + size, x.alter(1, false), size);
        T.due("no farther", x.alter(1, false), STATE);
        T.due("the other one", x.crime(0, 0), 5);
        T.due("stitches that were made", x.count(4), 16);
    }

    private static void alteredOnNobodyAlone() {
        ConfessBySize x = Due.opened("m50,m50;501501");
        x.confess(1, 0);
        T.due("out while it hangs", x.alter(0, true), STATE);
        T.due("in while it hangs", x.alter(0, false), STATE);
        T.due("another one", x.alter(1, true), 6);
        x.recant(1);
        T.due("out when it does not", x.alter(0, true), 6);
    }

    // ---- terms 2: "STITCHES: by how few, each .. being ALTERED by 0, 1, or 2 either way (to 1 to 9)"

    private static void stitches(String text, int want) {
        T.due("stitches of " + text, Due.opened(text).stitches(), want);
    }

    /** A man of 5 and a crime from 1 to 9: 0 from 4 to 6, 1 and 2 beyond, none 3 off and farther. */
    private static void stitchesByNoneOneOrTwo() {
        int[] want = {NONE, 2, 1, 0, 0, 0, 1, 2, NONE};
        for (int size = 1; size <= 9; size++) stitches("m50,b10;" + size + "01", want[size - 1]);
        int[] ofTailor = {2, 1, 0, 0, 0, 0, 0, 1, 2};
        for (int size = 1; size <= 9; size++) stitches("t50,b10;" + size + "01", ofTailor[size - 1]);
    }

    private static void stitchesAtOneAndNine() {
        for (int size = 1; size <= 9; size++) {
            stitches("m10,b10;" + size + "01", size <= 2 ? 0 : size <= 4 ? size - 2 : NONE);
            stitches("m90,b10;" + size + "01", size >= 8 ? 0 : size >= 6 ? 8 - size : NONE);
            stitches("i90,b10;" + size + "01", size >= 9 ? 0 : size >= 7 ? 9 - size : NONE);
            stitches("h91,b10;" + size + "01", size >= 7 ? 0 : size >= 5 ? 7 - size : NONE);
            stitches("h11,b10;" + size + "01", size <= 3 ? 0 : size <= 5 ? size - 3 : NONE);
        }
        stitches("m40,m60;101901", 4);
        stitches("m30,m70;101901", 2);
        stitches("m50,m60;101901", NONE);
    }

    /** "all of these could HANG": one that nobody could have is enough for none, and so are more than may. */
    private static void stitchesOfAll() {
        stitches("m50,m50;501", 0);
        stitches("m50,m50;501501", 0);
        stitches("m50,m50;501501501", NONE);
        stitches("m50,m50;501511", NONE);
        stitches("m50,b50;501501", NONE);
        stitches("m50,m50,m50,m50;501501501501", 0);
        stitches("m50,m50,m50,b50;501501501501", NONE);
        stitches("m30,m30,m30,m30;601601601601", 8);
        stitches("m30,m30,m30,m30;601601601701", NONE);
    }

    /** One each: the nearest for one crime may be wanted by another; those that hang, and on whom, are left out. */
    private static void stitchesOneEach() {
        stitches("m50,m70;501601", 0);
        stitches("m50,m80;601601", 1);
        stitches("m50,m80;501501", 2);
        ConfessBySize x = Due.opened("m50,m80;601601");
        x.confess(0, 1);
        T.due("the near one has one", x.stitches(), 1);
        x.recant(0);
        x.confess(0, 0);
        T.due("the other one is left", x.stitches(), 1);
        x.alter(1, true);
        T.due("its size now", x.stitches(), 0);
    }

    /** "by how few": of several ways the fewest, be it the first that is looked at, the last, or one between. */
    private static void stitchesTheFewest() {
        stitches("m50,m60;501701", 0);
        stitches("m60,m50;501701", 0);
        stitches("m50,m60;701501", 0);
        stitches("m40,m60;501801", 1);
        stitches("m60,m40;501801", 1);
        stitches("m20,m50,m80;301601901", 0);
        stitches("m50,m80,m20;901301601", 0);
        stitches("m80,m20,m50;701401101", 0);
        stitches("m30,m50,m70;801601101", 1);
        stitches("t30,m50,h71;511101601", 0);
    }

    /** All of them together are counted: the way that is fewest for one crime, or for the rest, may be more in all. */
    private static void stitchesInAll() {
        stitches("m50,m80;501601", 1);
        stitches("m80,m50;501601", 1);
        stitches("m50,m80;701801", 1);
        stitches("m80,m50;701801", 1);
        stitches("m10,m50,m80;101501601", 1);
        stitches("m10,m80,m50;101501601", 1);
        stitches("m10,m50,m80;101701801", 1);
        stitches("m10,m80,m50;101701801", 1);
        stitches("m50,m80;301801", 1);
        stitches("m80,m50;301901", 1);
    }

    /** The fourth crime, and the fourth person, of sizes near 1 and 9: by no more than any other. */
    private static void stitchesOfTheLast() {
        stitches("m90,m90,m90,m10;901901901201", 0);
        stitches("m90,m90,m90,m10;901901901301", 1);
        stitches("m90,m90,m90,m10;901901901401", 2);
        stitches("m10,m10,m10,m90;101101101801", 0);
        stitches("m10,m10,m10,m90;101101101701", 1);
        stitches("m10,m10,m10,m90;101101101601", 2);
        stitches("m10,m90,m90,m90;901901901301", 1);
        stitches("m90,m10,m10,m10;101101101701", 1);
    }

    /** What hangs takes none but him on whom it hangs out of those who may. */
    private static void stitchesOfThoseLeft() {
        ConfessBySize first = Due.opened("m50,m80;801501");
        first.confess(1, 0);
        T.due("the first crime hangs on the last person", first.stitches(), 0);
        ConfessBySize last = Due.opened("m50,m80;801501");
        last.confess(0, 1);
        T.due("the last crime hangs on the first person", last.stitches(), 0);
        String[] crimes = {"101", "401", "701", "901"};
        for (int hangs = 0; hangs < 4; hangs++) {
            for (int on = 0; on < 4; on++) {
                ConfessBySize x = Due.opened("m10,m40,m70,m90;" + turned(crimes, on - hangs));
                T.due("confess()", x.confess(on, hangs), 1);
                T.due(hangs + " hangs on " + on + ": stitches()", x.stitches(), 0);
            }
        }
    }

    /** Turned round: crime c of the text is crime c + by of these, and fits person c + by alone. */
    private static String turned(String[] crimes, int by) {
        StringBuilder text = new StringBuilder();
        for (int c = 0; c < crimes.length; c++) text.append(crimes[Math.floorMod(c + by, crimes.length)]);
        return text.toString();
    }

    /** It tells by how few, and makes none: sizes and the count of those made stay. */
    private static void stitchesAlterNothing() {
        ConfessBySize x = Due.opened("m50,m80;801501");
        x.alter(0, false);
        T.due("stitches()", x.stitches(), 0);
        x.alter(0, false);
        x.alter(0, false);
        T.due("stitches()", x.stitches(), 2);
        T.due("its size", x.crime(0, 0), 5);
        T.due("the other's size", x.crime(1, 0), 5);
        T.due("stitches that were made", x.count(4), 3);
    }

    // ---- terms 2: "HALVES of a CRIME: which two .. together just as much as its SIZE"

    private static void halves(String text, int want) {
        T.due("halves in " + text, Due.opened(text).crime(0, 5), want);
    }

    private static void halvesJustAsMuch() {
        for (int size = 1; size <= 9; size++) {
            halves("m20,b30;" + size + "01", size == 5 ? 1 : NONE);
            halves("m10,m10;" + size + "01", size == 2 ? 1 : NONE);
            halves("t10,h80;" + size + "01", size == 9 ? 1 : NONE);
            halves("m90,m90;" + size + "01", NONE);
        }
        halves("m20,m90;401", NONE);
    }

    private static void halvesOfTheIrish() {
        for (int size = 1; size <= 9; size++) {
            halves("i20,m30;" + size + "01", size == 6 ? 1 : NONE);
            halves("m30,i20;" + size + "01", size == 6 ? 1 : NONE);
            halves("i20,i30;" + size + "01", size == 7 ? 1 : NONE);
            halves("i10,i10;" + size + "01", size == 4 ? 1 : NONE);
            halves("i80,b10;" + size + "01", NONE);
        }
    }

    /** "the HAND of one of whom at least is like its own (a THIEF's is)" */
    private static void halvesByOneHand() {
        halves("m20,m30;501", 1);
        halves("m20,m31;501", 1);
        halves("m21,m30;501", 1);
        halves("m21,m31;501", NONE);
        halves("m21,m32;501", NONE);
        halves("h21,m31;501", 1);
        halves("m21,h31;501", 1);
        halves("b21,b30;501", 1);
    }

    /** "like its own": another crime's size and hand do not matter, be it ahead or behind. */
    private static void halvesOfEachCrime() {
        halvesOfAll("m20,m30;501511", 1, NONE);
        halvesOfAll("m20,m30;511501", NONE, 1);
        halvesOfAll("m20,m30;501601", 1, NONE);
        halvesOfAll("m20,m30;601501", NONE, 1);
        halvesOfAll("m20,m31,m10;501511521301", 1, 1, NONE, 2);
        halvesOfAll("m12,m20,m32;401421322501", NONE, 2, 1, 12);
    }

    private static void halvesOfAll(String text, int... want) {
        ConfessBySize x = Due.opened(text);
        for (int c = 0; c < want.length; c++) T.due("halves of " + c + " in " + text, x.crime(c, 5), want[c]);
    }

    /** "any two, BOYS, too, whatever they CONFESSED", and whatever of it hangs. */
    private static void halvesOfAnyTwo() {
        halves("b20,b30;501", 1);
        halves("b21,m30;501", 1);
        ConfessBySize x = Due.opened("m40,m50;501901401");
        T.due("at first", x.crime(1, 5), 1);
        x.confess(0, 0);
        T.due("one has confessed another", x.crime(1, 5), 1);
        x.confess(1, 2);
        T.due("both have", x.crime(1, 5), 1);
        ConfessBySize hangs = Due.opened("m40,m40,h50;901");
        hangs.alter(0, false);
        hangs.alter(0, false);
        hangs.confess(2, 0);
        T.due("it hangs, of 7", hangs.crime(0, 5), NONE);
        hangs.recant(2);
        hangs.alter(0, true);
        T.due("let out to 8", hangs.crime(0, 5), 1);
        hangs.alter(0, true);
        T.due("let out to 9", hangs.crime(0, 5), 2);
        ConfessBySize three = Due.opened("m40,m50,m90;901");
        three.confess(2, 0);
        T.due("it hangs, and two could go halves", three.crime(0, 5), 1);
    }

    /** "10 times the lesser number, and the greater one, together": the least of those that could, from 01 to 23. */
    private static void halvesTheLeast() {
        halves("m40,m50,m40,m50;901", 1);
        halves("m40,m40,m50,m50;901", 2);
        halves("m40,m40,m40,m50;901", 3);
        halves("m10,m40,m50,m50;901", 12);
        halves("m10,m40,m40,m50;901", 13);
        halves("m10,m10,m40,m50;901", 23);
        halves("m10,m10,m40,m40;901", NONE);
        halves("m40,m10,m90,m50;901", 3);
        halves("m50,m50,m10,m40;901", 3);
    }

    // ---- terms 3: "HOW LARGE one can be (1 to 9) .. as bits (1 for 1, 2 for 2, 4 for 3, and so on)"

    private static int bits(int low, int high) {
        int bits = 0;
        for (int size = Math.max(low, 1); size <= Math.min(high, 9); size++) bits += 1 << size - 1;
        return bits;
    }

    /** Each kind, each size of a crime: 0 and 10 have no bits, however near they would be. */
    private static void largeFromOneToNine() {
        int[] bears = {1, 2, 0, 1, 2};
        for (int kind = 0; kind < KINDS.length(); kind++) {
            for (int size = 1; size <= 9; size++) {
                String text = KINDS.charAt(kind) + "50,m10;" + size + "01";
                int middle = kind == 3 ? size - 1 : size;
                int want = bits(middle - bears[kind], middle + bears[kind]);
                ConfessBySize x = Due.opened(text);
                T.due("nothing tried in " + text, x.about(0, 7), 511);
                x.tried(0, 0, true);
                T.due("it fits in " + text, x.about(0, 7), want);
                x.forget();
                x.tried(0, 0, false);
                T.due("it does not in " + text, x.about(0, 7), 511 - want);
                x.tried(0, 0, true);
                T.due("both in " + text, x.about(0, 7), 0);
            }
        }
    }

    /** "by his KIND and HAND": with another hand none fits, so it tells of no size, or leaves none. */
    private static void largeByHand() {
        ConfessBySize x = Due.opened("m51,h51;501");
        x.tried(0, 0, false);
        T.due("another hand, it does not", x.about(0, 7), 511);
        x.tried(0, 0, true);
        T.due("another hand, it does", x.about(0, 7), 0);
        x.tried(1, 0, true);
        T.due("a thief's is like any", x.about(1, 7), bits(3, 7));
    }

    // ---- terms 3: "NEXT for one: which CRIME .. so that fewest of these are left at worst"

    private static void next(String text, int want) {
        T.due("next in " + text, Due.opened(text).about(0, 8), want);
    }

    /** At worst: of 9 sizes one that fits 3 leaves 6, 4 leave 5, 5 leave 5, and 0 leave 9. */
    private static void nextAtWorst() {
        next("m50,m10;101501", 1);
        next("m50,m10;901201", 1);
        next("m50,m10;511101", 1);
        next("t50,m10;101801", 1);
        next("t50,m10;201901", 0);
        next("b50,m10;511901", 1);
        next("i50,m10;101301", 1);
        next("i50,m10;101201", 1);
        next("h53,m10;101521", 1);
        next("t50,m10;101901201", 2);
        next("t50,m10;101901901801", 3);
    }

    private static void nextTheLeast() {
        next("m50,m10;501401", 0);
        next("t50,m10;501801", 0);
        next("t50,m10;801501", 0);
        next("m50,m10;511521531", 0);
        next("m50,m10;501", 0);
        next("m50,m10;101201301401", 1);
        next("m50,m10;901901901901", 0);
    }

    // ---- promise 12, of two and four people, of one and four crimes

    private static void match(String text, int many, int reward, int... has) {
        ConfessBySize x = Due.opened(text);
        T.due("match(0) of " + text, x.match(0), many);
        T.due("match(1) of " + text, x.match(1), reward);
        for (int p = 0; p < 4; p++) {
            int want = p < has.length ? has[p] : NONE;
            T.due("match(" + (10 + p) + ") of " + text, x.match(10 + p), want);
        }
    }

    private static void matchOfTwoAndOne() {
        match("m50,b50;507", 1, 7, 0, NONE);
        match("b50,m50;507", 1, 7, NONE, 0);
        match("m50,m50;507", 1, 7, NONE, 0);
        match("m50,m50;907", 0, 0);
    }

    private static void matchOfTwoAndFour() {
        match("m50,m50;501502503504", 2, 7, 2, 3);
        match("m50,m50;504503502501", 2, 7, 0, 1);
        match("m50,m50;901902903504", 1, 4, NONE, 3);
    }

    private static void matchOfFourAndOne() {
        match("m50,m50,m50,m50;509", 1, 9, NONE, NONE, NONE, 0);
        match("m50,m50,m50,b50;509", 1, 9, NONE, NONE, 0, NONE);
    }

    private static void matchOfFourAndFour() {
        match("m50,m50,m50,m50;509509509509", 4, 36, 0, 1, 2, 3);
        match("m90,m70,m50,m30;301502703904", 4, 10, 3, 2, 1, 0);
        match("b90,b70,b50,b30;301502703904", 0, 0);
        match("m90,b70,b50,m30;301502703904", 2, 5, 3, NONE, NONE, 0);
    }

    /** "as many as can be; of these for as much REWARD as can be": two of 1 are ahead of one of 9. */
    private static void matchManyAheadOfReward() {
        match("m50,m70;601509", 2, 10, 1, 0);
        match("t50,m90;709801", 2, 10, 0, 1);
        match("m50,m80;609401", 1, 9, 0, NONE);
        match("m50,m70;609401", 2, 10, 1, 0);
        match("m50,m70;701609509", 2, 18, 2, 1);
    }

    /** "of like ones the first by numbers (which CRIME PERSON 0 has, none ahead of all, then PERSON 1, and so on)" */
    private static void matchFirstByNumbers() {
        match("m50,m50,m50;505505", 2, 10, NONE, 0, 1);
        match("m50,m50;505505505", 2, 10, 0, 1);
        match("m50,m50;505506505", 2, 11, 0, 1);
        match("m50,m50,m50,m50;505505", 2, 10, NONE, NONE, 0, 1);
        match("m50,m60,m70;505705", 2, 10, NONE, 0, 1);
        match("m50,t60,m50;505705", 2, 10, NONE, 1, 0);
        match("m50,m80,m80;501801", 2, 2, 0, NONE, 1);
        match("m80,m50,m80;501801", 2, 2, NONE, 0, 1);
    }
}
