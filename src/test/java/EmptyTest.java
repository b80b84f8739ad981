/** Empty: no station, an empty page, nothing tried, nothing that hangs, no crime that nobody has confessed. */
public final class EmptyTest {
    private static final Due T = new Due();
    private static final int NONE = ConfessBySize.NONE, UNKNOWN = ConfessBySize.UNKNOWN, STATE = ConfessBySize.STATE;
    private static final int[] OF_MATCH = {0, 1, 10, 11, 12, 13};

    public static void main(String[] args) {
        noStationAtFirst();
        noStationKnowsNobody();
        noStationRefuses();
        noStationCounts();
        noStationIsDigested();
        noStationByAWrongText();
        pageEmptyAtFirst();
        pageEmptyByBlank();
        pageEmptyByStation();
        pageEmptyIsNoStation();
        nothingTriedAtFirst();
        nothingTriedByForget();
        nothingTriedByStation();
        nothingHangsAtFirst();
        nothingHangsByRecant();
        nothingHangsByStation();
        noCrimeLeft();
        nobodyLeft();
        noSizeLeft();
        noImage();
        noneOfWhatWas();
        T.end();
    }

    // ---- promise 1: "No STATION"; terms 1: "At first there is none"

    private static ConfessBySize withPage() {
        return Due.typed("m50,m50;501");
    }

    private static void noStationAtFirst() {
        T.due("people", new ConfessBySize().count(0), 0);
        T.due("crimes", new ConfessBySize().count(1), 0);
        T.due("a station that is typed, but not read: people", withPage().count(0), 0);
        T.due("a station that is typed, but not read: crimes", withPage().count(1), 0);
    }

    /** A number names nothing, whatever else is asked. */
    private static void noStationKnowsNobody() {
        for (ConfessBySize x : new ConfessBySize[] {new ConfessBySize(), withPage()}) {
            for (int what = -1; what <= 9; what++) {
                T.due("about(0, " + what + ")", x.about(0, what), UNKNOWN);
                T.due("as(0, " + what + ")", x.as(0, what), UNKNOWN);
                T.due("crime(0, " + what + ")", x.crime(0, what), UNKNOWN);
            }
            T.due("confess(0, 0)", x.confess(0, 0), UNKNOWN);
            T.due("recant(0)", x.recant(0), UNKNOWN);
            T.due("alter(0, true)", x.alter(0, true), UNKNOWN);
            T.due("alter(0, false)", x.alter(0, false), UNKNOWN);
            T.due("tried(0, 0, true)", x.tried(0, 0, true), UNKNOWN);
            T.due("tried(0, 0, false)", x.tried(0, 0, false), UNKNOWN);
        }
    }

    private static void noStationRefuses() {
        for (ConfessBySize x : new ConfessBySize[] {new ConfessBySize(), withPage()}) {
            for (int what : OF_MATCH) T.due("match(" + what + ")", x.match(what), STATE);
            T.due("stitches()", x.stitches(), STATE);
            for (int what = 0; what <= 2; what++) T.due("weeks(1, 0, " + what + ")", x.weeks(1, 0, what), STATE);
            T.due("image()", x.image(), STATE);
            T.due("restore()", x.restore(), STATE);
            T.due("forget()", x.forget(), 0);
            T.due("stitches() was not done", x.count(9), 0);
        }
    }

    private static void noStationCounts() {
        for (int what = 0; what <= 9; what++) {
            T.due("count(" + what + ")", new ConfessBySize().count(what), 0);
            T.due("count(" + what + ") with a page", withPage().count(what), what == 7 ? 11 : 0);
        }
    }

    /** "with a STATION .. what match() tells": without one nothing of it is in the digest, nor STATE for it. */
    private static void noStationIsDigested() {
        long h = 1009;
        for (int what = 0; what <= 9; what++) h = 31 * h;
        T.due("digest() of a new object", new ConfessBySize().digest(), h);
        h = 31 * 1009 + '~';
        for (int what = 0; what <= 9; what++) h = 31 * h + (what == 7 ? 1 : 0);
        T.due("digest() of a letter alone", Due.typed("~").digest(), h);
    }

    private static void noStationByAWrongText() {
        ConfessBySize x = Due.typed("m50,m50;50");
        T.due("station()", x.station(), STATE);
        T.due("people", x.count(0), 0);
        T.due("crimes", x.count(1), 0);
        T.due("read", x.count(8), 0);
        T.due("match(0)", x.match(0), STATE);
        x.letter('1');
        T.due("and then it is one", x.station(), 1);
    }

    // ---- THE PAGE empty

    private static void isEmpty(String why, ConfessBySize x) {
        T.due(why + ": letters", x.count(7), 0);
        T.due(why + ": fault()", x.fault(), 0);
        T.due(why + ": station()", x.station(), STATE);
        T.due(why + ": blank()", x.blank(), 0);
        T.due(why + ": the next letter is the first", x.letter('m'), 1);
    }

    private static void pageEmptyAtFirst() {
        isEmpty("new", new ConfessBySize());
    }

    private static void pageEmptyByBlank() {
        for (int many = 1; many <= 30; many++) {
            ConfessBySize x = new ConfessBySize();
            for (int i = 0; i < many; i++) x.letter('z');
            T.due("blank() of " + many, x.blank(), many);
            isEmpty("blank of " + many, x);
        }
    }

    private static void pageEmptyByStation() {
        isEmpty("station", Due.opened("m50,m50;501"));
        isEmpty("the longest station", Due.opened("m50,m50,m50,m50;501501501501"));
    }

    /** Nothing of a station that was is read again from the empty page. */
    private static void pageEmptyIsNoStation() {
        ConfessBySize x = Due.typed("m50,m50;501");
        x.blank();
        T.due("station() behind blank()", x.station(), STATE);
        Due.type(x, "m50,m50;501");
        T.due("station()", x.station(), 1);
        T.due("station() again", x.station(), STATE);
        T.due("the one that was stays", x.count(0), 2);
        Due.type(x, "m");
        T.due("a letter over what was there", x.station(), STATE);
        T.due("its fault", x.fault(), 1);
    }

    // ---- nothing TRIED

    private static void nothingIsTried(String why, ConfessBySize x) {
        T.due(why + ": how much is tried", x.count(6), 0);
        for (int p = 0; p < x.count(0); p++) T.due(why + ": how large " + p, x.about(p, 7), 511);
        T.due(why + ": next of a man", x.about(0, 8), 1);
        T.due(why + ": forget()", x.forget(), 0);
        T.due(why + ": the next is the first", x.tried(0, 0, true), 1);
    }

    private static void nothingTriedAtFirst() {
        nothingIsTried("at first", Due.opened("m50,t50,b50,i50;101501"));
        nothingIsTried("at first", Due.opened("m50,h50;101501"));
    }

    private static void nothingTriedByForget() {
        for (int many = 1; many <= 6; many++) {
            ConfessBySize x = Due.opened("m50,t50,b50,i50;101501");
            for (int i = 0; i < many; i++) x.tried(i % 4, i % 2, i < 3);
            T.due("forget() of " + many, x.forget(), many);
            nothingIsTried("forgotten " + many, x);
        }
    }

    private static void nothingTriedByStation() {
        ConfessBySize x = Due.opened("m50,m50;101501");
        for (int i = 0; i < 6; i++) x.tried(i % 2, 0, true);
        Due.type(x, "m50,m50;101501");
        x.station();
        nothingIsTried("another station", x);
    }

    // ---- nothing that HANGS

    private static void nothingHangs(String why, ConfessBySize x) {
        T.due(why + ": how many", x.count(2), 0);
        T.due(why + ": paid", x.count(3), 0);
        for (int p = 0; p < x.count(0); p++) {
            T.due(why + ": which " + p + " has", x.about(p, 4), NONE);
            T.due(why + ": what he is paid", x.about(p, 5), 0);
            T.due(why + ": recant", x.recant(p), STATE);
        }
        for (int c = 0; c < x.count(1); c++) T.due(why + ": on whom " + c, x.crime(c, 3), NONE);
    }

    private static void nothingHangsAtFirst() {
        nothingHangs("at first", Due.opened("m50,t50,b50,i50;501502503504"));
        nothingHangs("at first", Due.opened("m50,m50;501"));
    }

    private static void nothingHangsByRecant() {
        ConfessBySize x = Due.opened("m50,t50,b50,i50;501602503504");
        x.confess(0, 0);
        x.confess(1, 3);
        x.confess(3, 1);
        T.due("three hang", x.count(2), 3);
        T.due("recant(3)", x.recant(3), 1);
        T.due("recant(0)", x.recant(0), 0);
        T.due("recant(1)", x.recant(1), 3);
        nothingHangs("all recanted", x);
        T.due("how often one confessed", x.count(5), 3);
    }

    private static void nothingHangsByStation() {
        ConfessBySize x = Due.opened("m50,m50;501502");
        x.confess(0, 1);
        x.confess(1, 0);
        Due.type(x, "m50,m50;501502");
        x.station();
        nothingHangs("another station", x);
    }

    // ---- no CRIME that nobody has CONFESSED; nobody who may

    private static void noCrimeLeft() {
        ConfessBySize x = Due.opened("m50,m50,m50;505503");
        x.confess(2, 0);
        x.confess(0, 1);
        for (int what : OF_MATCH) T.due("match(" + what + ")", x.match(what), what < 2 ? 0 : NONE);
        T.due("stitches()", x.stitches(), 0);
        T.due("it was done", x.count(9), 1);
        T.due("confess()", x.confess(1, 0), STATE);
        T.due("alter()", x.alter(0, true), STATE);
        T.due("they fit all the same", x.about(1, 6), 3);
        T.due("next all the same", x.about(1, 8), 0);
        T.due("tried all the same", x.tried(1, 0, true), 1);
        x.recant(2);
        T.due("one is left", x.match(0), 1);
        ConfessBySize four = Due.opened("m50,m50,m50,m50;505503502501");
        for (int p = 0; p < 4; p++) four.confess(p, p);
        for (int what : OF_MATCH) T.due("all four: match(" + what + ")", four.match(what), what < 2 ? 0 : NONE);
        T.due("all four: stitches()", four.stitches(), 0);
    }

    /** All who may have one, or are boys: what is left hangs on nobody, and no stitch helps. */
    private static void nobodyLeft() {
        ConfessBySize x = Due.opened("m50,b50;505503");
        x.confess(0, 1);
        for (int what : OF_MATCH) T.due("match(" + what + ")", x.match(what), what < 2 ? 0 : NONE);
        T.due("stitches()", x.stitches(), NONE);
        T.due("a boy", x.confess(1, 0), STATE);
        ConfessBySize boys = Due.opened("b50,b50;505");
        for (int what : OF_MATCH) T.due("boys: match(" + what + ")", boys.match(what), what < 2 ? 0 : NONE);
        T.due("boys: stitches()", boys.stitches(), NONE);
        T.due("boys: it fits", boys.crime(0, 4), 3);
        T.due("boys: weeks(60, 1, 0)", boys.weeks(60, 1, 0), 0);
        T.due("boys: weeks(60, 1, 1)", boys.weeks(60, 1, 1), 0);
    }

    /** "none, if there are none": no size is left of him, and another's stay. */
    private static void noSizeLeft() {
        ConfessBySize x = Due.opened("m50,m50;501901");
        x.tried(0, 0, true);
        T.due("some are left", x.about(0, 8), 0);
        x.tried(0, 1, true);
        T.due("how large", x.about(0, 7), 0);
        T.due("next", x.about(0, 8), NONE);
        T.due("how large is another", x.about(1, 7), 511);
        T.due("next of another", x.about(1, 8), 0);
        x.forget();
        T.due("next when it is forgotten", x.about(0, 8), 0);
    }

    // ---- promises 17 and 18: no image; promise 5: "another one is gone, with all that was"

    private static void noImage() {
        ConfessBySize x = Due.opened("m50,m50;501");
        T.due("none was kept", x.restore(), STATE);
        T.due("one is", x.image(), 0);
        T.due("restore()", x.restore(), 0);
        T.due("it is kept still", x.restore(), 0);
        Due.type(x, "m50,m50;50");
        T.due("no station is read", x.station(), STATE);
        T.due("it is kept still", x.restore(), 0);
        x.letter('1');
        T.due("a station is read", x.station(), 1);
        T.due("none is kept", x.restore(), STATE);
        T.due("one of its own", x.image(), 0);
        T.due("restore()", x.restore(), 0);
    }

    /** It tells what a new object with this text tells, but for what counts on. */
    private static void noneOfWhatWas() {
        ConfessBySize x = Due.opened("h10,h90,i50,t50;501502503504");
        x.confess(3, 3);
        x.alter(0, false);
        x.tried(0, 0, true);
        x.stitches();
        x.image();
        x.confess(2, 2);
        Due.type(x, "m50,t60;503604");
        T.due("station()", x.station(), 2);
        ConfessBySize y = Due.opened("m50,t60;503604");
        for (int p = 0; p < 4; p++) {
            for (int what = 0; what <= 8; what++) T.due("about", x.about(p, what), y.about(p, what));
        }
        for (int c = 0; c < 4; c++) {
            for (int what = 0; what <= 5; what++) T.due("crime", x.crime(c, what), y.crime(c, what));
        }
        for (int what : OF_MATCH) T.due("match", x.match(what), y.match(what));
        for (int what = 0; what <= 7; what++) T.due("count(" + what + ")", x.count(what), y.count(what));
        T.due("read twice", x.count(8), 2);
        T.due("stitches() counts on", x.count(9), 1);
    }
}
