/** All promises: runs of up to 512 mixed calls, each answer against the model's, with arguments in bounds and out. */
public final class ModelTest {
    private static final Due T = new Due();
    /** 33 calls are the most that one step makes: blank, 29 letters, fault, station, digest; one more ends the run. */
    private static final int RUNS = 600, CALLS = 512, OF_A_STEP = 33;
    private static final int[] FAR = {Integer.MIN_VALUE, -2, -1, 4, 5, 9, 14, 61, 127, Integer.MAX_VALUE};
    private static long seed = 20261118;

    private ConfessBySize x = new ConfessBySize();
    private Model m = new Model();
    private int calls;
    private int run;

    public static void main(String[] args) {
        for (int run = 0; run < RUNS; run++) {
            ModelTest one = new ModelTest();
            one.run = run;
            one.go();
        }
        T.end();
    }

    private static int draw(int many) {
        seed = seed * 6364136223846793005L + 1442695040888963407L;
        return (int) ((seed >>> 33) % many);
    }

    private void go() {
        while (calls + OF_A_STEP < CALLS) {
            if (draw(60) == 0 || m.count(0) == 0 && draw(3) > 0) typeStation();
            else one();
        }
        same("digest", x.digest(), m.digest());
        T.due("run " + run + ": no more calls than are promised", calls <= CALLS);
    }

    private void same(String call, long got, long want) {
        calls++;
        T.due("run " + run + ", call " + calls + ": " + call, got, want);
    }

    private void type(String text) {
        for (int i = 0; i < text.length(); i++) {
            same("letter", x.letter(text.charAt(i)), m.letter(text.charAt(i)));
        }
    }

    private static String someStation() {
        StringBuilder text = new StringBuilder();
        int people = 2 + draw(3);
        int crimes = 1 + draw(4);
        // few hands and near sizes, so that much fits
        int hands = 1 + draw(3);
        int low = 1 + draw(9);
        int spread = 1 + draw(10 - low);
        for (int p = 0; p < people; p++) {
            text.append(p == 0 ? "" : ",").append("mtbihmth".charAt(draw(8)));
            text.append(low + draw(spread)).append(draw(hands));
        }
        text.append(';');
        for (int c = 0; c < crimes; c++) {
            int size = draw(3) == 0 ? 1 + draw(9) : low + draw(spread);
            text.append(size).append(draw(hands)).append(1 + draw(draw(2) == 0 ? 9 : 2));
        }
        return text.toString();
    }

    private void typeStation() {
        String text = someStation();
        if (draw(4) == 0) {
            int at = draw(text.length());
            String signs = "mtbih0123456789,;x ";
            text = text.substring(0, at) + signs.charAt(draw(signs.length())) + text.substring(at + draw(2));
        }
        same("blank", x.blank(), m.blank());
        type(text);
        same("fault of " + text, x.fault(), m.fault());
        same("station of " + text, x.station(), m.station());
        same("digest", x.digest(), m.digest());
    }

    /** Mostly a number below the bound; now and then one that is far from it. */
    private static int number(int below) {
        return draw(20) == 0 ? FAR[draw(FAR.length)] : draw(below);
    }

    private void one() {
        int p = number(draw(5) == 0 ? 4 : Math.max(1, m.count(0)));
        int c = number(draw(5) == 0 ? 4 : Math.max(1, m.count(1)));
        boolean yes = draw(2) == 0;
        switch (draw(24)) {
            case 0, 1, 2, 3 -> same("confess", x.confess(p, c), m.confess(p, c));
            case 4 -> same("recant", x.recant(p), m.recant(p));
            case 5, 6 -> same("alter", x.alter(c, yes), m.alter(c, yes));
            case 7, 8 -> tried(p, c, yes);
            case 9 -> {
                if (draw(3) == 0) same("forget", x.forget(), m.forget());
            }
            case 10 -> same("image", x.image(), m.image());
            case 11 -> same("restore", x.restore(), m.restore());
            case 12 -> same("stitches", x.stitches(), m.stitches());
            case 13 -> weeks();
            case 14 -> about(p, number(9));
            case 15 -> as(p, number(5));
            case 16 -> crime(c, number(6));
            case 17 -> match(number(14));
            case 18 -> count(number(10));
            case 19 -> letter(number(127));
            case 20 -> same("fault", x.fault(), m.fault());
            case 21 -> same("station", x.station(), m.station());
            case 22 -> same("blank", x.blank(), m.blank());
            default -> same("digest", x.digest(), m.digest());
        }
    }

    /** Half of what is tried is so, by his own size: then some sizes are left. */
    private void tried(int p, int c, boolean yes) {
        boolean fits = draw(2) == 0 ? yes : (m.about(p, 6) >> Math.floorMod(c, 4) & 1) == 1;
        same("tried", x.tried(p, c, fits), m.tried(p, c, fits));
    }

    private void weeks() {
        int times = draw(10) == 0 ? number(62) : 1 + draw(60);
        int from = draw(10) == 0 ? FAR[draw(FAR.length)] : draw(Integer.MAX_VALUE);
        int what = number(3);
        same("weeks", x.weeks(times, from, what), m.weeks(times, from, what));
    }

    private void about(int p, int what) {
        same("about(" + p + ", " + what + ")", x.about(p, what), m.about(p, what));
    }

    private void as(int p, int kind) {
        same("as(" + p + ", " + kind + ")", x.as(p, kind), m.as(p, kind));
    }

    private void crime(int c, int what) {
        same("crime(" + c + ", " + what + ")", x.crime(c, what), m.crime(c, what));
    }

    private void match(int what) {
        same("match(" + what + ")", x.match(what), m.match(what));
    }

    private void count(int what) {
        same("count(" + what + ")", x.count(what), m.count(what));
    }

    private void letter(int code) {
        same("letter(" + code + ")", x.letter(code), m.letter(code));
    }
}
