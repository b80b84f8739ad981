import java.util.ArrayList;
import java.util.List;
import java.util.regex.Matcher;
import java.util.regex.Pattern;

/** The document once more, written apart from the class and as literally as can be: by trying everything. */
final class Model {
    private static final String PERSON = "[mtbih][1-9][0-3]";
    private static final Pattern STATION =
            Pattern.compile(PERSON + "(," + PERSON + "){1,3};([1-9][0-3][1-9]){1,4}");

    /** What an image keeps. */
    private record Kept(int[] sizes, int[] has, int stitches, int confessed, List<int[]> tried) {
        Kept copy() {
            return new Kept(sizes.clone(), has.clone(), stitches, confessed, new ArrayList<>(tried));
        }
    }

    private String page = "";
    private String[] people = {};
    private String[] crimes = {};
    private Kept now = new Kept(new int[0], new int[0], 0, 0, new ArrayList<>());
    private Kept kept;
    private int read;
    private int stitchings;

    int letter(int code) {
        if (code < 32 || code > 126) return -102;
        if (page.length() == 30) return -104;
        page += (char) code;
        return page.length();
    }

    int blank() {
        int had = page.length();
        page = "";
        return had;
    }

    int fault() {
        for (int n = 1; n <= page.length(); n++) {
            Matcher matcher = STATION.matcher(page.substring(0, n));
            if (!matcher.matches() && !matcher.hitEnd()) return n - 1;
        }
        return page.length();
    }

    int station() {
        if (!STATION.matcher(page).matches()) return -103;
        String[] halves = page.split(";");
        people = halves[0].split(",");
        crimes = halves[1].split("(?<=\\G...)");
        int[] sizes = new int[crimes.length];
        for (int c = 0; c < sizes.length; c++) sizes[c] = digit(crimes[c], 0);
        int[] has = new int[people.length];
        java.util.Arrays.fill(has, -1);
        now = new Kept(sizes, has, 0, 0, new ArrayList<>());
        kept = null;
        page = "";
        read++;
        return crimes.length;
    }

    private static int digit(String text, int place) {
        return text.charAt(place) - '0';
    }

    private char kind(int p) {
        return people[p].charAt(0);
    }

    private int bear(int p) {
        return switch (kind(p)) {
            case 'b' -> 0;
            case 't', 'h' -> 2;
            default -> 1;
        };
    }

    private boolean alike(int p, int hand) {
        return kind(p) == 'h' || digit(people[p], 2) == hand;
    }

    private int counts(int p, int size) {
        return kind(p) == 'i' ? size + 1 : size;
    }

    private boolean fits(int p, int ofSize, int crimeSize, int hand) {
        return alike(p, hand) && Math.abs(counts(p, ofSize) - crimeSize) <= bear(p);
    }

    private boolean fits(int p, int c) {
        return fits(p, digit(people[p], 1), now.sizes[c], digit(crimes[c], 1));
    }

    private int hangsOn(int[] has, int c) {
        for (int p = 0; p < has.length; p++) {
            if (has[p] == c) return p;
        }
        return -1;
    }

    private int reward(int c) {
        return digit(crimes[c], 2);
    }

    private static boolean in(int number, int length) {
        return number >= 0 && number < length;
    }

    int about(int p, int what) {
        if (!in(p, people.length)) return -101;
        return switch (what) {
            case 0 -> "mtbih".indexOf(kind(p));
            case 1 -> digit(people[p], 1);
            case 2 -> digit(people[p], 2);
            case 3 -> bear(p);
            case 4 -> now.has[p];
            case 5 -> now.has[p] < 0 ? 0 : reward(now.has[p]);
            case 6 -> {
                int bits = 0;
                for (int c = 0; c < crimes.length; c++) bits += fits(p, c) ? 1 << c : 0;
                yield bits;
            }
            case 7 -> {
                int bits = 0;
                for (int size : large(p, now.tried)) bits += 1 << (size - 1);
                yield bits;
            }
            case 8 -> next(p);
            default -> -102;
        };
    }

    private List<Integer> large(int p, List<int[]> tried) {
        List<Integer> left = new ArrayList<>();
        for (int size = 1; size <= 9; size++) {
            boolean so = true;
            for (int[] t : tried) so &= t[0] != p || fits(p, size, t[1], t[2]) == (t[3] == 1);
            if (so) left.add(size);
        }
        return left;
    }

    /** By trying each crime both ways and asking how large he is then. */
    private int next(int p) {
        if (large(p, now.tried).isEmpty()) return -1;
        int best = -1;
        int fewest = 0;
        for (int c = crimes.length - 1; c >= 0; c--) {
            int worst = 0;
            for (int fit = 0; fit < 2; fit++) {
                List<int[]> then = new ArrayList<>(now.tried);
                then.add(new int[] {p, now.sizes[c], digit(crimes[c], 1), fit});
                worst = Math.max(worst, large(p, then).size());
            }
            if (best < 0 || worst <= fewest) {
                best = c;
                fewest = worst;
            }
        }
        return best;
    }

    int as(int p, int kind) {
        if (!in(p, people.length)) return -101;
        if (!in(kind, 5)) return -102;
        String[] who = {"mtbih", "th", "b", "i", "h"};
        return who[kind].indexOf(kind(p)) >= 0 ? p : -1;
    }

    int crime(int c, int what) {
        if (!in(c, crimes.length)) return -101;
        return switch (what) {
            case 0 -> now.sizes[c];
            case 1 -> digit(crimes[c], 1);
            case 2 -> reward(c);
            case 3 -> hangsOn(now.has, c);
            case 4 -> {
                int bits = 0;
                for (int p = 0; p < people.length; p++) bits += fits(p, c) ? 1 << p : 0;
                yield bits;
            }
            case 5 -> halves(c);
            default -> -102;
        };
    }

    private int halves(int c) {
        int least = -1;
        for (int told = 99; told >= 0; told--) {
            int p = told / 10;
            int q = told % 10;
            if (p >= q || q >= people.length) continue;
            int together = counts(p, digit(people[p], 1)) + counts(q, digit(people[q], 1));
            int hand = digit(crimes[c], 1);
            if (together == now.sizes[c] && (alike(p, hand) || alike(q, hand))) least = told;
        }
        return least;
    }

    private boolean may(int[] has, int p, int c) {
        return fits(p, c) && hangsOn(has, c) < 0 && has[p] < 0 && kind(p) != 'b';
    }

    int confess(int p, int c) {
        if (!in(p, people.length) || !in(c, crimes.length)) return -101;
        if (!may(now.has, p, c)) return -103;
        now.has[p] = c;
        now = new Kept(now.sizes, now.has, now.stitches, now.confessed + 1, now.tried);
        return reward(c);
    }

    int recant(int p) {
        if (!in(p, people.length)) return -101;
        if (now.has[p] < 0) return -103;
        int c = now.has[p];
        now.has[p] = -1;
        return c;
    }

    int alter(int c, boolean out) {
        if (!in(c, crimes.length)) return -101;
        int size = out ? now.sizes[c] + 1 : now.sizes[c] - 1;
        if (hangsOn(now.has, c) >= 0 || size < 1 || size > 9) return -103;
        now.sizes[c] = size;
        now = new Kept(now.sizes, now.has, now.stitches + 1, now.confessed, now.tried);
        return size;
    }

    int match(int what) {
        if (what != 0 && what != 1 && !(what >= 10 && what <= 13)) return -102;
        if (people.length == 0) return -103;
        int[] best = match(now.sizes);
        return what < 2 ? best[what] : best[what - 8];
    }

    /** How many, how much, and who has which: every choice is made, from the last to the first. */
    private int[] match(int[] sizes) {
        int[] best = {-1, -1, -1, -1, -1, -1};
        for (int code = 624; code >= 0; code--) {
            int[] one = {0, 0, code / 125 - 1, code / 25 % 5 - 1, code / 5 % 5 - 1, code % 5 - 1};
            if (!canHang(one, sizes)) continue;
            for (int p = 0; p < 4; p++) {
                if (one[2 + p] < 0) continue;
                one[0]++;
                one[1] += reward(one[2 + p]);
            }
            if (one[0] > best[0] || one[0] == best[0] && one[1] >= best[1]) best = one;
        }
        return best;
    }

    private boolean canHang(int[] one, int[] sizes) {
        int taken = 0;
        for (int p = 0; p < 4; p++) {
            int c = one[2 + p];
            if (c < 0) continue;
            if (p >= people.length || c >= crimes.length || (taken >> c & 1) == 1) return false;
            if (now.has[p] >= 0 || kind(p) == 'b' || hangsOn(now.has, c) >= 0) return false;
            if (!fits(p, digit(people[p], 1), sizes[c], digit(crimes[c], 1))) return false;
            taken |= 1 << c;
        }
        return true;
    }

    /** Every way to alter is tried, and a match is made of each. */
    int stitches() {
        if (people.length == 0 || stitchings == 12) return -103;
        stitchings++;
        int open = 0;
        for (int c = 0; c < crimes.length; c++) open += hangsOn(now.has, c) < 0 ? 1 : 0;
        int fewest = -1;
        for (int code = 0; code < 625; code++) {
            int[] by = {code / 125 - 2, code / 25 % 5 - 2, code / 5 % 5 - 2, code % 5 - 2};
            int sum = 0;
            boolean canBe = true;
            int[] sizes = now.sizes.clone();
            for (int c = 0; c < 4; c++) {
                sum += Math.abs(by[c]);
                if (c >= crimes.length || hangsOn(now.has, c) >= 0) {
                    canBe &= by[c] == 0;
                } else {
                    sizes[c] += by[c];
                    canBe &= sizes[c] >= 1 && sizes[c] <= 9;
                }
            }
            if (canBe && (fewest < 0 || sum < fewest) && match(sizes)[0] == open) fewest = sum;
        }
        return fewest;
    }

    int tried(int p, int c, boolean fits) {
        if (!in(p, people.length) || !in(c, crimes.length)) return -101;
        if (now.tried.size() == 6) return -104;
        now.tried.add(new int[] {p, now.sizes[c], digit(crimes[c], 1), fits ? 1 : 0});
        return now.tried.size();
    }

    int forget() {
        int were = now.tried.size();
        now.tried.clear();
        return were;
    }

    int weeks(int times, int seed, int what) {
        if (times < 1 || times > 60 || seed < 0 || !in(what, 3)) return -102;
        if (people.length == 0) return -103;
        int[] has = now.has.clone();
        long last = seed;
        for (int i = 0; i < times; i++) {
            last = (1103515245L * last + 12345) % (1L << 31);
            int p = (int) (last / 65536 % people.length);
            last = (1103515245L * last + 12345) % (1L << 31);
            int c = (int) (last / 65536 % crimes.length);
            if (has[p] >= 0) has[p] = -1;
            else if (may(has, p, c)) has[p] = c;
        }
        int[] told = {0, 0, (int) last};
        for (int c : has) {
            told[0] += c < 0 ? 0 : 1;
            told[1] += c < 0 ? 0 : reward(c);
        }
        return told[what];
    }

    int image() {
        if (people.length == 0) return -103;
        kept = now.copy();
        return now.confessed;
    }

    int restore() {
        if (kept == null) return -103;
        now = kept.copy();
        return now.confessed;
    }

    int count(int what) {
        int hang = 0;
        int paid = 0;
        for (int c : now.has) {
            hang += c < 0 ? 0 : 1;
            paid += c < 0 ? 0 : reward(c);
        }
        return switch (what) {
            case 0 -> people.length;
            case 1 -> crimes.length;
            case 2 -> hang;
            case 3 -> paid;
            case 4 -> now.stitches;
            case 5 -> now.confessed;
            case 6 -> now.tried.size();
            case 7 -> page.length();
            case 8 -> read;
            case 9 -> stitchings;
            default -> -102;
        };
    }

    long digest() {
        List<Integer> numbers = new ArrayList<>();
        for (int p = 0; p < people.length; p++) {
            for (int what = 0; what <= 8; what++) numbers.add(about(p, what));
        }
        for (int c = 0; c < crimes.length; c++) {
            for (int what = 0; what <= 5; what++) numbers.add(crime(c, what));
        }
        if (people.length > 0) {
            for (int number : match(now.sizes)) numbers.add(number);
        }
        for (int i = 0; i < page.length(); i++) numbers.add((int) page.charAt(i));
        for (int what = 0; what <= 9; what++) numbers.add(count(what));
        long h = 1009;
        for (int number : numbers) h = 31 * h + number;
        return h;
    }
}
