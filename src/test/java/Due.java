/** What the tests share: a tally of wrong answers, and short ways to make an object that is read to a station. */
final class Due {
    private int wrong;
    private int asked;

    void due(String call, long got, long want) {
        asked++;
        if (got == want) return;
        wrong++;
        System.out.println(call + " answered " + got + ", due is " + want);
    }

    void due(String call, boolean got) {
        due(call, got ? 1 : 0, 1);
    }

    /** The last call of a test's main: exit code 1 if one answer was wrong, or if nothing was asked. */
    void end() {
        if (asked == 0) System.out.println("nothing was asked");
        if (wrong > 0 || asked == 0) System.exit(1);
    }

    static void type(ConfessBySize x, String text) {
        for (int i = 0; i < text.length(); i++) x.letter(text.charAt(i));
    }

    static ConfessBySize typed(String text) {
        ConfessBySize x = new ConfessBySize();
        type(x, text);
        return x;
    }

    static ConfessBySize opened(String text) {
        ConfessBySize x = typed(text);
        int crimes = x.station();
        if (crimes < 1) throw new IllegalStateException("no station: " + text);
        return x;
    }
}
