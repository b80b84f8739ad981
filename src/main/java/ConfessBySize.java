/** A station that takes in crimes and pays whoever they fit. What it must do stands in ../shared/DOC.md. */
public final class ConfessBySize {
    public static final int NONE = -1, UNKNOWN = -101, OUTSIDE = -102, STATE = -103, FULL = -104;

    private static final int MOST_LETTERS = 30, LEAST_CODE = 32, LARGEST_CODE = 126;
    private static final int MOST_PEOPLE = 4, LEAST_PEOPLE = 2, MOST_CRIMES = 4, LARGEST_SIZE = 9;
    private static final int PERSON_LETTERS = 4, CRIME_LETTERS = 3;
    private static final int MOST_TRIED = 6, MOST_STITCHINGS = 12, FARTHEST_STITCH = 2, MOST_TIMES = 60;
    private static final int MAN = 0, TAILOR = 1, BOY = 2, IRISH = 3, THIEF = 4;
    private static final int LAST_OF_ABOUT = 8, LAST_OF_CRIME = 5, LAST_OF_WEEKS = 2, LAST_OF_COUNT = 9;
    private static final int FIRST_HAS = 10, LAST_HAS = 13;

    private final Page page;
    private final Roll roll;
    private final Standing now;
    private final Standing kept;
    private final Standing wouldBe;
    private final Matching matching;
    private boolean isKept;
    private int stationsRead;
    private int stitchingsDone;

    public ConfessBySize() {
        page = new Page();
        roll = new Roll();
        now = new Standing();
        kept = new Standing();
        wouldBe = new Standing();
        matching = new Matching();
    }

    // ---- the station

    public int letter(int code) {
        if (code < LEAST_CODE || code > LARGEST_CODE) return OUTSIDE;
        if (page.isFull()) return FULL;
        page.add(code);
        return page.length();
    }

    public int blank() {
        int had = page.length();
        page.clear();
        return had;
    }

    public int fault() {
        return page.firstFault();
    }

    public int station() {
        if (!page.isStation()) return STATE;
        roll.read(page);
        now.begin(roll);
        isKept = false;
        page.clear();
        stationsRead++;
        return roll.crimesMany();
    }

    // ---- people, crimes

    public int about(int person, int what) {
        Man man = roll.manOf(person);
        if (man == null) return UNKNOWN;
        if (what < 0 || what > LAST_OF_ABOUT) return OUTSIDE;
        switch (what) {
            case 0: return man.kind();
            case 1: return man.size;
            case 2: return man.hand;
            case 3: return man.bears();
            case 4: return now.crimeOn(person);
            case 5: return paidTo(now, person);
            case 6: return crimesFitting(person);
            case 7: return sizesLeft(person);
            default: return nextToTry(person);
        }
    }

    public int as(int person, int kind) {
        Man man = roll.manOf(person);
        if (man == null) return UNKNOWN;
        if (kind < MAN || kind > THIEF) return OUTSIDE;
        return isOfKind(man, kind) ? person : NONE;
    }

    public int crime(int crime, int what) {
        Crime told = roll.crimeOf(crime);
        if (told == null) return UNKNOWN;
        if (what < 0 || what > LAST_OF_CRIME) return OUTSIDE;
        switch (what) {
            case 0: return now.sizeOf(crime);
            case 1: return told.hand;
            case 2: return told.reward;
            case 3: return now.hangsOn(crime);
            case 4: return peopleFitted(crime);
            default: return halvesOf(crime);
        }
    }

    public int confess(int person, int crime) {
        if (roll.manOf(person) == null || roll.crimeOf(crime) == null) return UNKNOWN;
        if (!mayConfess(now, person, crime)) return STATE;
        now.hang(person, crime);
        now.timesConfessed++;
        return paidTo(now, person);
    }

    public int recant(int person) {
        if (roll.manOf(person) == null) return UNKNOWN;
        int crime = now.crimeOn(person);
        if (crime == NONE) return STATE;
        now.hang(person, NONE);
        return crime;
    }

    public int alter(int crime, boolean out) {
        if (roll.crimeOf(crime) == null) return UNKNOWN;
        int size = now.sizeOf(crime) + (out ? 1 : -1);
        if (now.hangsOn(crime) != NONE || !isSize(size)) return STATE;
        now.resize(crime, size);
        now.stitchesMade++;
        return size;
    }

    // ---- what could be

    public int match(int what) {
        if (!isOfMatch(what)) return OUTSIDE;
        if (!isOpen()) return STATE;
        findMatch();
        return toldOfMatch(what);
    }

    public int stitches() {
        if (!isOpen() || stitchingsDone >= MOST_STITCHINGS) return STATE;
        stitchingsDone++;
        return fewestStitches(this, 0, 0);
    }

    // ---- what is tried

    public int tried(int person, int crime, boolean fits) {
        Crime told = roll.crimeOf(crime);
        if (roll.manOf(person) == null || told == null) return UNKNOWN;
        if (now.trials.isFull()) return FULL;
        now.trials.add(person, now.sizeOf(crime), told.hand, fits);
        return now.trials.many();
    }

    public int forget() {
        int were = now.trials.many();
        now.trials.clear();
        return were;
    }

    public int weeks(int times, int seed, int what) {
        if (times < 1 || times > MOST_TIMES || seed < 0 || what < 0 || what > LAST_OF_WEEKS) return OUTSIDE;
        if (!isOpen()) return STATE;
        wouldBe.copyFrom(now);
        int last = seed;
        for (int i = 0; i < times; i++) {
            int seedOfPerson = seedAfter(last);
            last = seedAfter(seedOfPerson);
            comesFor(drawn(seedOfPerson, roll.peopleMany()), drawn(last, roll.crimesMany()));
        }
        switch (what) {
            case 0: return wouldBe.hanging();
            case 1: return paidInAll(wouldBe);
            default: return last;
        }
    }

    // ---- what is told of all

    public int image() {
        if (!isOpen()) return STATE;
        kept.copyFrom(now);
        isKept = true;
        return kept.timesConfessed;
    }

    public int restore() {
        if (!isKept) return STATE;
        now.copyFrom(kept);
        return now.timesConfessed;
    }

    public int count(int what) {
        if (what < 0 || what > LAST_OF_COUNT) return OUTSIDE;
        switch (what) {
            case 0: return roll.peopleMany();
            case 1: return roll.crimesMany();
            case 2: return now.hanging();
            case 3: return paidInAll(now);
            case 4: return now.stitchesMade;
            case 5: return now.timesConfessed;
            case 6: return now.trials.many();
            case 7: return page.length();
            case 8: return stationsRead;
            default: return stitchingsDone;
        }
    }

    public long digest() {
        long h = 1009;
        for (int person = 0; person < roll.peopleMany(); person++) {
            for (int what = 0; what <= LAST_OF_ABOUT; what++) h = 31 * h + about(person, what);
        }
        for (int crime = 0; crime < roll.crimesMany(); crime++) {
            for (int what = 0; what <= LAST_OF_CRIME; what++) h = 31 * h + crime(crime, what);
        }
        if (isOpen()) h = withMatch(h);
        for (int place = 0; place < page.length(); place++) h = 31 * h + page.codeAt(place);
        for (int what = 0; what <= LAST_OF_COUNT; what++) h = 31 * h + count(what);
        return h;
    }

    // ---- what the calls above are made of

    private boolean isOpen() {
        return roll.peopleMany() > 0;
    }

    private static boolean isSize(int size) {
        return size >= 1 && size <= LARGEST_SIZE;
    }

    private static boolean isOfKind(Man man, int kind) {
        switch (kind) {
            case MAN: return true;
            case TAILOR: return man instanceof Tailor;
            case BOY: return man instanceof Boy;
            case IRISH: return man instanceof Irish;
            default: return man instanceof Thief;
        }
    }

    private boolean isFitting(int person, int crime, int crimeSize) {
        Man man = roll.manOf(person);
        Crime told = roll.crimeOf(crime);
        return man != null && told != null && man.wouldFit(man.size, crimeSize, told.hand);
    }

    private int crimesFitting(int person) {
        int bits = 0;
        for (int crime = 0; crime < roll.crimesMany(); crime++) {
            if (isFitting(person, crime, now.sizeOf(crime))) bits |= 1 << crime;
        }
        return bits;
    }

    private int peopleFitted(int crime) {
        int bits = 0;
        for (int person = 0; person < roll.peopleMany(); person++) {
            if (isFitting(person, crime, now.sizeOf(crime))) bits |= 1 << person;
        }
        return bits;
    }

    private int halvesOf(int crime) {
        for (int lesser = 0; lesser < roll.peopleMany(); lesser++) {
            for (int greater = lesser + 1; greater < roll.peopleMany(); greater++) {
                if (canGoHalves(lesser, greater, crime)) return 10 * lesser + greater;
            }
        }
        return NONE;
    }

    private boolean canGoHalves(int lesser, int greater, int crime) {
        Man one = roll.manOf(lesser);
        Man other = roll.manOf(greater);
        Crime told = roll.crimeOf(crime);
        if (one == null || other == null || told == null) return false;
        return one.counted(one.size) + other.counted(other.size) == now.sizeOf(crime)
                && (one.hasHandLike(told.hand) || other.hasHandLike(told.hand));
    }

    private boolean isFree(Standing standing, int person) {
        Man man = roll.manOf(person);
        return man != null && man.doesConfess() && standing.crimeOn(person) == NONE;
    }

    private boolean mayConfess(Standing standing, int person, int crime) {
        return isFree(standing, person) && standing.hangsOn(crime) == NONE
                && isFitting(person, crime, standing.sizeOf(crime));
    }

    private int paidTo(Standing standing, int person) {
        Crime told = roll.crimeOf(standing.crimeOn(person));
        return told == null ? 0 : told.reward;
    }

    private int paidInAll(Standing standing) {
        int paid = 0;
        for (int person = 0; person < roll.peopleMany(); person++) paid += paidTo(standing, person);
        return paid;
    }

    private static boolean isOfMatch(int what) {
        return what == 0 || what == 1 || what >= FIRST_HAS && what <= LAST_HAS;
    }

    private void findMatch() {
        matching.begin(roll.peopleMany());
        for (int person = 0; person < roll.peopleMany(); person++) {
            for (int crime = 0; crime < roll.crimesMany(); crime++) {
                if (mayConfess(now, person, crime)) matching.allow(person, crime);
            }
        }
        for (int crime = 0; crime < roll.crimesMany(); crime++) {
            Crime told = roll.crimeOf(crime);
            if (told != null) matching.reward(crime, told.reward);
        }
        matching.find();
    }

    private int toldOfMatch(int what) {
        switch (what) {
            case 0: return matching.bestMany;
            case 1: return matching.bestReward;
            default: return matching.bestOn(what - FIRST_HAS);
        }
    }

    /** One search serves all six numbers: digest() would otherwise make it six times. */
    private long withMatch(long h) {
        findMatch();
        long mixed = 31 * h + toldOfMatch(0);
        mixed = 31 * mixed + toldOfMatch(1);
        for (int what = FIRST_HAS; what <= LAST_HAS; what++) mixed = 31 * mixed + toldOfMatch(what);
        return mixed;
    }

    /**
     * The fewest stitches by which this crime and those behind it can hang on people that are not taken (bits).
     * A crime hangs on one alone, so the fewest for each pair of them is enough; no set of alterations is tried.
     */
    private static int fewestStitches(ConfessBySize desk, int crime, int taken) {
        if (crime >= desk.roll.crimesMany()) return 0;
        if (desk.now.hangsOn(crime) != NONE) return fewestStitches(desk, crime + 1, taken);
        int fewest = NONE;
        for (int person = 0; person < desk.roll.peopleMany(); person++) {
            if ((taken >> person & 1) == 1) continue;
            int own = desk.stitchesFor(person, crime);
            if (own == NONE) continue;
            int rest = fewestStitches(desk, crime + 1, taken | 1 << person);
            if (rest != NONE && (fewest == NONE || own + rest < fewest)) fewest = own + rest;
        }
        return fewest;
    }

    private int stitchesFor(int person, int crime) {
        if (!isFree(now, person)) return NONE;
        int size = now.sizeOf(crime);
        for (int by = 0; by <= FARTHEST_STITCH; by++) {
            if (isSize(size - by) && isFitting(person, crime, size - by)) return by;
            if (isSize(size + by) && isFitting(person, crime, size + by)) return by;
        }
        return NONE;
    }

    private int sizesLeft(int person) {
        Man man = roll.manOf(person);
        int bits = 0;
        for (int size = 1; size <= LARGEST_SIZE; size++) {
            if (now.trials.allow(person, man, size)) bits |= bitOfSize(size);
        }
        return bits;
    }

    private static int bitOfSize(int size) {
        return 1 << (size - 1);
    }

    private int nextToTry(int person) {
        int left = sizesLeft(person);
        if (left == 0) return NONE;
        int next = NONE;
        int fewest = LARGEST_SIZE + 1;
        for (int crime = 0; crime < roll.crimesMany(); crime++) {
            int worst = leftAtWorst(person, crime, left);
            if (worst < fewest) {
                fewest = worst;
                next = crime;
            }
        }
        return next;
    }

    private int leftAtWorst(int person, int crime, int left) {
        Man man = roll.manOf(person);
        Crime told = roll.crimeOf(crime);
        if (man == null || told == null) return LARGEST_SIZE;
        int fitting = 0;
        for (int size = 1; size <= LARGEST_SIZE; size++) {
            boolean isLeft = (left & bitOfSize(size)) != 0;
            if (isLeft && man.wouldFit(size, now.sizeOf(crime), told.hand)) fitting++;
        }
        return Math.max(fitting, Integer.bitCount(left) - fitting);
    }

    private static int seedAfter(int seed) {
        return (int) ((1103515245L * seed + 12345L) & 0x7FFFFFFFL);
    }

    private static int drawn(int seed, int many) {
        return many < 1 ? 0 : seed / 65536 % many;
    }

    private void comesFor(int person, int crime) {
        if (wouldBe.crimeOn(person) != NONE) wouldBe.hang(person, NONE);
        else if (mayConfess(wouldBe, person, crime)) wouldBe.hang(person, crime);
    }

    /** THE PAGE: its letters, and how far they are a station's. */
    private static final class Page {
        private final int[] codes = new int[MOST_LETTERS];
        private int length;

        int length() {
            return length;
        }

        boolean isFull() {
            return length >= codes.length;
        }

        void add(int code) {
            if (length < 0 || length >= codes.length) return;
            codes[length] = code;
            length++;
        }

        void clear() {
            length = 0;
        }

        int codeAt(int place) {
            return place >= 0 && place < length && place < codes.length ? codes[place] : NONE;
        }

        int digitAt(int place) {
            return codeAt(place) - '0';
        }

        int semicolon() {
            for (int place = 0; place < length; place++) {
                if (codeAt(place) == ';') return place;
            }
            return length;
        }

        int firstFault() {
            int semicolon = semicolon();
            for (int place = 0; place < length; place++) {
                boolean isRight = place <= semicolon
                        ? isOfPeople(codeAt(place), place) : isOfCrimes(codeAt(place), place - semicolon - 1);
                if (!isRight) return place;
            }
            return length;
        }

        boolean isStation() {
            int ofCrimes = length - semicolon() - 1;
            return firstFault() == length && ofCrimes > 0 && ofCrimes % CRIME_LETTERS == 0;
        }

        private static boolean isOfPeople(int code, int place) {
            int ended = place / PERSON_LETTERS + 1;
            switch (place % PERSON_LETTERS) {
                case 0: return isKindLetter(code);
                case 1: return isDigit(code, 1, LARGEST_SIZE);
                case 2: return isDigit(code, 0, 3);
                default: return code == ',' && ended < MOST_PEOPLE
                        || code == ';' && ended >= LEAST_PEOPLE && ended <= MOST_PEOPLE;
            }
        }

        private static boolean isOfCrimes(int code, int place) {
            if (place / CRIME_LETTERS >= MOST_CRIMES) return false;
            return place % CRIME_LETTERS == 1 ? isDigit(code, 0, 3) : isDigit(code, 1, 9);
        }

        private static boolean isKindLetter(int code) {
            return code == 'm' || code == 't' || code == 'b' || code == 'i' || code == 'h';
        }

        private static boolean isDigit(int code, int least, int largest) {
            return code >= '0' + least && code <= '0' + largest;
        }
    }

    /** The people and the crimes as the station's text told them; nobody before there is one. */
    private static final class Roll {
        private final Man[] people = new Man[MOST_PEOPLE];
        private final Crime[] crimes = new Crime[MOST_CRIMES];
        private int peopleMany;
        private int crimesMany;

        int peopleMany() {
            return peopleMany;
        }

        int crimesMany() {
            return crimesMany;
        }

        Man manOf(int person) {
            return person >= 0 && person < peopleMany && person < people.length ? people[person] : null;
        }

        Crime crimeOf(int crime) {
            return crime >= 0 && crime < crimesMany && crime < crimes.length ? crimes[crime] : null;
        }

        void read(Page page) {
            if (page == null) return;
            int firstOfCrimes = page.semicolon() + 1;
            peopleMany = Math.min(firstOfCrimes / PERSON_LETTERS, people.length);
            for (int person = 0; person < peopleMany && person < people.length; person++) {
                people[person] = manAt(page, person * PERSON_LETTERS);
            }
            crimesMany = Math.min((page.length() - firstOfCrimes) / CRIME_LETTERS, crimes.length);
            for (int crime = 0; crime < crimesMany && crime < crimes.length; crime++) {
                crimes[crime] = crimeAt(page, firstOfCrimes + crime * CRIME_LETTERS);
            }
        }

        private static Man manAt(Page page, int place) {
            int size = page.digitAt(place + 1);
            int hand = page.digitAt(place + 2);
            switch (page.codeAt(place)) {
                case 't': return new Tailor(size, hand);
                case 'b': return new Boy(size, hand);
                case 'i': return new Irish(size, hand);
                case 'h': return new Thief(size, hand);
                default: return new Man(size, hand);
            }
        }

        private static Crime crimeAt(Page page, int place) {
            return new Crime(page.digitAt(place), page.digitAt(place + 1), page.digitAt(place + 2));
        }
    }

    private static class Man {
        final int size;
        final int hand;

        Man(int size, int hand) {
            this.size = size;
            this.hand = hand;
        }

        int kind() {
            return MAN;
        }

        int bears() {
            return 1;
        }

        int counted(int ofSize) {
            return ofSize;
        }

        boolean hasHandLike(int crimeHand) {
            return hand == crimeHand;
        }

        boolean doesConfess() {
            return true;
        }

        /** If he were of this size: what is tried tells of people whose size is not known. */
        final boolean wouldFit(int ofSize, int crimeSize, int crimeHand) {
            return hasHandLike(crimeHand) && Math.abs(crimeSize - counted(ofSize)) <= bears();
        }
    }

    private static class Tailor extends Man {
        Tailor(int size, int hand) {
            super(size, hand);
        }

        int kind() {
            return TAILOR;
        }

        int bears() {
            return 2;
        }
    }

    private static final class Thief extends Tailor {
        Thief(int size, int hand) {
            super(size, hand);
        }

        int kind() {
            return THIEF;
        }

        boolean hasHandLike(int crimeHand) {
            return true;
        }
    }

    private static final class Boy extends Man {
        Boy(int size, int hand) {
            super(size, hand);
        }

        int kind() {
            return BOY;
        }

        int bears() {
            return 0;
        }

        boolean doesConfess() {
            return false;
        }
    }

    private static final class Irish extends Man {
        Irish(int size, int hand) {
            super(size, hand);
        }

        int kind() {
            return IRISH;
        }

        int counted(int ofSize) {
            return ofSize + 1;
        }
    }

    /** A crime as it was told: its size now is the standing's. */
    private static final class Crime {
        final int toldSize;
        final int hand;
        final int reward;

        Crime(int toldSize, int hand, int reward) {
            this.toldSize = toldSize;
            this.hand = hand;
            this.reward = reward;
        }
    }

    /** All that an image keeps: how the station stands, or stood, or would stand. */
    private static final class Standing {
        private final int[] sizes = new int[MOST_CRIMES];
        private final int[] hasConfessed = new int[MOST_PEOPLE];
        final Trials trials = new Trials();
        int stitchesMade;
        int timesConfessed;

        Standing() {
            for (int person = 0; person < hasConfessed.length; person++) hasConfessed[person] = NONE;
        }

        void begin(Roll roll) {
            if (roll == null) return;
            for (int crime = 0; crime < sizes.length; crime++) {
                Crime told = roll.crimeOf(crime);
                sizes[crime] = told == null ? 0 : told.toldSize;
            }
            for (int person = 0; person < hasConfessed.length; person++) hasConfessed[person] = NONE;
            trials.clear();
            stitchesMade = 0;
            timesConfessed = 0;
        }

        void copyFrom(Standing other) {
            if (other == null) return;
            for (int crime = 0; crime < sizes.length; crime++) sizes[crime] = other.sizeOf(crime);
            for (int person = 0; person < hasConfessed.length; person++) {
                hasConfessed[person] = other.crimeOn(person);
            }
            trials.copyFrom(other.trials);
            stitchesMade = other.stitchesMade;
            timesConfessed = other.timesConfessed;
        }

        int sizeOf(int crime) {
            return crime >= 0 && crime < sizes.length ? sizes[crime] : 0;
        }

        void resize(int crime, int size) {
            if (crime >= 0 && crime < sizes.length) sizes[crime] = size;
        }

        int crimeOn(int person) {
            return person >= 0 && person < hasConfessed.length ? hasConfessed[person] : NONE;
        }

        int hangsOn(int crime) {
            for (int person = 0; person < hasConfessed.length; person++) {
                if (hasConfessed[person] == crime) return person;
            }
            return NONE;
        }

        void hang(int person, int crime) {
            if (person >= 0 && person < hasConfessed.length) hasConfessed[person] = crime;
        }

        int hanging() {
            int many = 0;
            for (int person = 0; person < hasConfessed.length; person++) {
                if (hasConfessed[person] != NONE) many++;
            }
            return many;
        }
    }

    /** What is tried, with each crime's size at that time: it may be altered since. */
    private static final class Trials {
        private final int[] persons = new int[MOST_TRIED];
        private final int[] crimeSizes = new int[MOST_TRIED];
        private final int[] crimeHands = new int[MOST_TRIED];
        private final boolean[] didFit = new boolean[MOST_TRIED];
        private int many;

        int many() {
            return many;
        }

        boolean isFull() {
            return many >= MOST_TRIED;
        }

        void add(int person, int crimeSize, int crimeHand, boolean fits) {
            if (many < 0 || many >= MOST_TRIED) return;
            persons[many] = person;
            crimeSizes[many] = crimeSize;
            crimeHands[many] = crimeHand;
            didFit[many] = fits;
            many++;
        }

        void clear() {
            many = 0;
        }

        void copyFrom(Trials other) {
            if (other == null) return;
            clear();
            for (int i = 0; i < other.many && i < MOST_TRIED; i++) {
                add(other.persons[i], other.crimeSizes[i], other.crimeHands[i], other.didFit[i]);
            }
        }

        /** Whether all that is tried on him is so, if he is of this size. */
        boolean allow(int person, Man man, int size) {
            if (man == null) return false;
            for (int i = 0; i < many && i < MOST_TRIED; i++) {
                boolean isHis = persons[i] == person;
                if (isHis && man.wouldFit(size, crimeSizes[i], crimeHands[i]) != didFit[i]) return false;
            }
            return true;
        }
    }

    /** The search for a match: which crimes each may have go in, the best choice comes out. */
    private static final class Matching {
        private final int[] allowed = new int[MOST_PEOPLE];
        private final int[] rewards = new int[MOST_CRIMES];
        private final int[] choice = new int[MOST_PEOPLE];
        private final int[] best = new int[MOST_PEOPLE];
        private int peopleMany;
        int bestMany;
        int bestReward;

        void begin(int people) {
            peopleMany = Math.min(people, MOST_PEOPLE);
            bestMany = NONE;
            bestReward = NONE;
            for (int person = 0; person < MOST_PEOPLE; person++) {
                allowed[person] = 0;
                choice[person] = NONE;
                best[person] = NONE;
            }
        }

        void allow(int person, int crime) {
            if (person >= 0 && person < allowed.length) allowed[person] |= 1 << crime;
        }

        void reward(int crime, int reward) {
            if (crime >= 0 && crime < rewards.length) rewards[crime] = reward;
        }

        void find() {
            choose(this, 0, 0, 0, 0);
        }

        int bestOn(int person) {
            return person >= 0 && person < best.length ? best[person] : NONE;
        }

        /** Choices come in the order in which like ones are preferred, so only a better one replaces the best. */
        private static void choose(Matching m, int person, int taken, int many, int reward) {
            if (person < 0 || person >= m.peopleMany || person >= m.choice.length) {
                m.keepIfBetter(many, reward);
                return;
            }
            m.choice[person] = NONE;
            choose(m, person + 1, taken, many, reward);
            int open = m.allowed[person] & ~taken;
            for (int crime = 0; crime < m.rewards.length; crime++) {
                if ((open >> crime & 1) == 0) continue;
                m.choice[person] = crime;
                choose(m, person + 1, taken | 1 << crime, many + 1, reward + m.rewards[crime]);
            }
        }

        private void keepIfBetter(int many, int reward) {
            if (many < bestMany || many == bestMany && reward <= bestReward) return;
            bestMany = many;
            bestReward = reward;
            for (int person = 0; person < best.length && person < choice.length; person++) {
                best[person] = choice[person];
            }
        }
    }
}
