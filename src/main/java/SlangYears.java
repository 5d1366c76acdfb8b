import java.util.Arrays;

/**
 * Slang by the year: words that are coined in places, had by the young, learnt by their parents,
 * dropped, and kept by those who were young then.
 */
public final class SlangYears {
    public static final int BAD = -1, STATE = -2, FULL = -3, NONE = -9;
    public static final int NO = -1000000;

    private static final int PLACES_MOST = 3;
    private static final int WORDS_MOST = 5;
    private static final int SONGS_MOST = 10;
    private static final int WRITINGS_MOST = 40;
    private static final int TEXT_MOST = 300;
    private static final int IMAGES = 2;
    private static final int LAST_YEAR = 99;
    private static final int YOUNGEST = 10;
    private static final int OLDEST = 69;
    private static final int FIRST_YOUNG = 13;
    private static final int LAST_YOUNG = 19;
    private static final int FIRST_PARENTS = 35;
    private static final int LAST_PARENTS = 50;
    private static final int WHOLE = 1000;
    private static final int OVER_BELOW = 100;
    private static final int PRINTED_FROM = 100;
    private static final int WANTED_BELOW = 200;
    private static final int WRITER_AGE = 16;
    private static final int MEAN_OF_PLACES = -1;

    private static final int YOUNG = 0;
    private static final int PARENTS = 1;
    private static final int ALL = 2;

    private final Reader reader = new Reader();
    private final Moment now = new Moment();
    private final Moment[] images = new Moment[IMAGES];
    private final boolean[] kept = new boolean[IMAGES];
    private final Letter letter = new Letter();
    private final Writings writings = new Writings();
    private final Songs noSongs = new Songs();
    /** A life that is tried out: what would be without songs, without learning, or was in another year. */
    private final Life trial = new Life();
    private Land land = new Land();
    private Land spareLand = new Land();
    private int late = 2;
    private long trace = 0;

    public SlangYears() {
        for (int i = 0; i < IMAGES; i++) {
            images[i] = new Moment();
        }
        now.lot = 1;
    }

    // ---- the land

    public int type(long v, int n) {
        if (!between(n, 1, 8)) {
            return BAD;
        }
        return reader.append(v, n) ? reader.length : FULL;
    }

    public int clear() {
        int had = reader.length;
        reader.length = 0;
        return had;
    }

    public int land() {
        int answer = reader.readInto(spareLand);
        if (answer < 0) {
            return answer;
        }
        Land before = land;
        land = spareLand;
        spareLand = before;
        reader.length = 0;
        writings.size = 0;
        letter.told = false;
        for (int i = 0; i < IMAGES; i++) {
            kept[i] = false;
        }
        now.begin(land);
        return answer;
    }

    public int law(int what) {
        switch (what) {
            case 0: return land.take;
            case 1: return land.learn;
            case 2: return land.drop;
            case 3: return land.start;
            case 4: return late;
            default: return BAD;
        }
    }

    public int late(int v) {
        if (!between(v, 0, 30)) {
            return BAD;
        }
        int was = late;
        late = v;
        return was;
    }

    public int near(int p, int q) {
        if (!isPlace(p) || !isPlace(q) || p == q) {
            return BAD;
        }
        return land.nearness(p, q);
    }

    public int word(int w, int what) {
        if (!isWord(w)) {
            return BAD;
        }
        switch (what) {
            case 0: return land.meanings[w];
            case 1: return land.years[w];
            case 2: return land.homes[w];
            case 3: return land.plain[w] ? 1 : 0;
            case 4: return isCoined(w) ? 1 : 0;
            default: return BAD;
        }
    }

    // ---- years

    public int go(int n) {
        if (!between(n, 1, 99)) {
            return BAD;
        }
        if (now.year >= LAST_YEAR) {
            return STATE;
        }
        int years = Math.min(n, LAST_YEAR - now.year);
        for (int i = 0; i < years; i++) {
            now.pass(land);
        }
        return years;
    }

    public int anew() {
        int was = now.year;
        now.begin(land);
        return was;
    }

    public int share(int w, int p, int age) {
        if (!isWord(w) || !isPlace(p) || !isAge(age)) {
            return BAD;
        }
        return now.lives[w].shares[p][age];
    }

    public int has(int w, int p, int who) {
        if (!isWord(w) || !between(who, YOUNG, ALL)) {
            return BAD;
        }
        if (p == MEAN_OF_PLACES) {
            return meanNow(w, who);
        }
        return isPlace(p) ? now.lives[w].measure(p, who) : BAD;
    }

    public int song(int w, int p, int g) {
        if (!isWord(w) || !isPlace(p) || !between(g, 1, 99)) {
            return BAD;
        }
        if (!isCoined(w)) {
            return STATE;
        }
        if (now.songs.size >= SONGS_MOST) {
            return FULL;
        }
        now.songs.add(now.year, w, p, g);
        now.lives[w].raise(p, FIRST_YOUNG, LAST_YOUNG, 10 * g);
        now.lives[w].note(land.places, now.year);
        return now.songs.size;
    }

    public int life(int w, int what) {
        if (!isWord(w) || !between(what, 0, 3)) {
            return BAD;
        }
        if (!isCoined(w)) {
            return STATE;
        }
        Life life = now.lives[w];
        switch (what) {
            case 0: return life.peak(now.year);
            case 1: return life.peakYear(now.year);
            case 2: return life.overYear(now.year);
            default: return life.keptAge(land.places);
        }
    }

    public int printed(int w, int what) {
        if (!isWord(w) || !between(what, 0, 1)) {
            return BAD;
        }
        int year = now.lives[w].parentsYear(now.year);
        if (year == NONE) {
            return NONE;
        }
        return what == 0 ? year + late : year + late - land.years[w];
    }

    // ---- pages, letters

    public long old(int on, int not, int a, int b, int what) {
        if (!isAge(a) || !isAge(b) || a > b || !between(what, 0, 1)) {
            return BAD;
        }
        long all = weights(on, not, YOUNGEST, OLDEST);
        if (all == 0) {
            return STATE;
        }
        return leastTerms(weights(on, not, a, b), all, what);
    }

    public int likeliest(int on, int not, int what) {
        if (!between(what, 0, 1)) {
            return BAD;
        }
        long greatest = 0;
        int bestAge = STATE;
        int bestPlace = STATE;
        for (int age = YOUNGEST; age <= OLDEST; age++) {
            for (int p = 0; p < land.places; p++) {
                long weight = weight(on, not, age, p);
                if (weight > greatest) {
                    greatest = weight;
                    bestAge = age;
                    bestPlace = p;
                }
            }
        }
        return what == 0 ? bestAge : bestPlace;
    }

    public int letter(int words, int year, int age, int p) {
        if (!between(year, 0, now.year) || !isAge(age) || !isPlace(p)) {
            return BAD;
        }
        letter.told = true;
        letter.words = words & ((1 << land.words) - 1);
        letter.year = year;
        letter.age = age;
        letter.place = p;
        return Integer.bitCount(letter.words);
    }

    public int could() {
        if (!letterStands()) {
            return STATE;
        }
        recallLetter();
        int bits = 0;
        for (int w = 0; w < land.words; w++) {
            if (isIn(letter.words, w) && letter.shares[w] == 0) {
                bits |= 1 << w;
            }
        }
        return bits;
    }

    public long forged(int b, int q, int f, int what) {
        if (!isAge(b) || !isPlace(q) || !between(f, 0, 10) || !between(what, 0, 1)) {
            return BAD;
        }
        if (!letterStands()) {
            return STATE;
        }
        recallLetter();
        long forger = weight(letter.words, 0, b, q) * f;
        long both = forger + letterWeight() * (10 - f);
        return both == 0 ? STATE : leastTerms(forger, both, what);
    }

    // ---- what they do

    public int kills(int w) {
        if (!isWord(w) || !isCoined(w)) {
            return NO;
        }
        return lastOver(w, 0) - lastOver(w, land.learn);
    }

    public int part(int w) {
        if (!isWord(w)) {
            return NO;
        }
        trial.replay(land, noSongs, w, land.learn, now.year);
        return now.lives[w].peak(now.year) - trial.peak(now.year);
    }

    public int writing(int year, int age, int w) {
        if (!between(year, 0, LAST_YEAR) || !isAge(age) || !isWord(w)) {
            return BAD;
        }
        if (writings.size >= WRITINGS_MOST) {
            return FULL;
        }
        writings.add(year - age + WRITER_AGE, w);
        return writings.size;
    }

    public int span(int w, int what) {
        if (!isWord(w) || !between(what, 0, 3)) {
            return NO;
        }
        int with = writings.countOf(w);
        if (with == 0) {
            return NO;
        }
        switch (what) {
            case 0: return writings.least(w);
            case 1: return writings.greatest(w);
            default: return (int) leastTerms(writings.sum(w), with, what - 2);
        }
    }

    public int wants(int m) {
        if (!between(m, 0, 3)) {
            return BAD;
        }
        for (int w = 0; w < land.words; w++) {
            if (land.meanings[w] == m && meanNow(w, YOUNG) >= WANTED_BELOW) {
                return 0;
            }
        }
        return 1;
    }

    public int drawn(int age, int p) {
        if (!isAge(age) || !isPlace(p)) {
            return BAD;
        }
        int bits = 0;
        for (int w = 0; w < land.words; w++) {
            now.lot = now.lot * 1103515245 + 12345;
            int draw = (now.lot >>> 16) % 1000;
            if (draw < now.lives[w].shares[p][age]) {
                bits |= 1 << w;
            }
        }
        return bits;
    }

    public int lot(int v) {
        int was = now.lot;
        now.lot = v;
        return was;
    }

    // ---- kinds, images

    public int rate(int kind, int w) {
        if (!isWord(w)) {
            return NO;
        }
        switch (kind) {
            case 0: return rateWord(w);
            case 1: return rateNew(w);
            case 2: return rateHad(w);
            case 3: return rateOver(w);
            case 4: return rateKept(w);
            case 5: return rateStayed(w);
            default: return NO;
        }
    }

    public int keep(int image) {
        if (!between(image, 0, IMAGES - 1)) {
            return BAD;
        }
        images[image].copyFrom(now);
        kept[image] = true;
        return now.year;
    }

    public int back(int image) {
        if (!between(image, 0, IMAGES - 1)) {
            return BAD;
        }
        if (!kept[image]) {
            return STATE;
        }
        now.copyFrom(images[image]);
        return now.year;
    }

    public int count(int what) {
        switch (what) {
            case 0: return land.places;
            case 1: return land.words;
            case 2: return now.year;
            case 3: return now.songs.size;
            case 4: return writings.size;
            case 5: return reader.length;
            default: return BAD;
        }
    }

    public long trace() {
        return trace;
    }

    // ---- what a number must be

    private static boolean between(int v, int least, int most) {
        return v >= least && v <= most;
    }

    private static boolean isAge(int age) {
        return between(age, YOUNGEST, OLDEST);
    }

    private boolean isPlace(int p) {
        return between(p, 0, land.places - 1);
    }

    private boolean isWord(int w) {
        return between(w, 0, land.words - 1);
    }

    private boolean isCoined(int w) {
        return land.years[w] <= now.year;
    }

    private static boolean isIn(int bits, int w) {
        return (bits >> w & 1) == 1;
    }

    // ---- weights, fractions

    private int meanNow(int w, int who) {
        int sum = 0;
        for (int p = 0; p < land.places; p++) {
            sum += now.lives[w].measure(p, who);
        }
        return mean(sum, land.places);
    }

    private static int mean(int sum, int places) {
        return places > 0 ? sum / places : 0;
    }

    private long weight(int on, int not, int age, int p) {
        long weight = 1;
        for (int w = 0; w < land.words; w++) {
            int share = now.lives[w].shares[p][age];
            if (isIn(on, w)) {
                weight *= share;
            } else if (isIn(not, w)) {
                weight *= WHOLE - share;
            }
        }
        return weight;
    }

    private long weights(int on, int not, int a, int b) {
        long sum = 0;
        for (int age = a; age <= b; age++) {
            for (int p = 0; p < land.places; p++) {
                sum += weight(on, not, age, p);
            }
        }
        return sum;
    }

    private boolean letterStands() {
        return letter.told && letter.year <= now.year;
    }

    /** The letter's words are lived again up to its year: what its writer had of them then. */
    private void recallLetter() {
        for (int w = 0; w < land.words; w++) {
            if (isIn(letter.words, w)) {
                trial.replay(land, now.songs, w, land.learn, letter.year);
                letter.shares[w] = trial.shares[letter.place][letter.age];
            }
        }
    }

    private long letterWeight() {
        long weight = 1;
        for (int w = 0; w < land.words; w++) {
            if (isIn(letter.words, w)) {
                weight *= letter.shares[w];
            }
        }
        return weight;
    }

    /** The upper (0) or lower (1) number of a fraction whose lower number is above 0. */
    private static long leastTerms(long upper, long lower, int what) {
        long common = commonDivisor(Math.abs(upper), lower);
        if (common <= 0) {
            return STATE;
        }
        return (what == 0 ? upper : lower) / common;
    }

    private static long commonDivisor(long a, long b) {
        long greater = a;
        long less = b;
        for (int i = 0; i < 1000 && less != 0; i++) {
            long left = greater % less;
            greater = less;
            less = left;
        }
        return greater;
    }

    /** The year in which a word is over, of all that may ever be; the last one, if it never is. */
    private int lastOver(int w, int learn) {
        trial.replay(land, now.songs, w, learn, LAST_YEAR);
        int over = trial.overYear(LAST_YEAR);
        return over == NONE ? LAST_YEAR : over;
    }

    // ---- the bodies of the kinds, each under the one that it calls

    private int rateWord(int w) {
        trace += 1;
        return land.years[w];
    }

    private int rateNew(int w) {
        trace += 10;
        return rateWord(w) + meanNow(w, YOUNG);
    }

    private int rateHad(int w) {
        trace += 100;
        return rateWord(w) + meanNow(w, ALL);
    }

    private int rateOver(int w) {
        trace += 1000;
        return rateHad(w) - meanNow(w, PARENTS);
    }

    private int rateKept(int w) {
        trace += 10000;
        return 2 * rateOver(w);
    }

    private int rateStayed(int w) {
        trace += 100000;
        return rateWord(w) + land.meanings[w];
    }

    /** What a text tells: places, how near they are, the law, the words. */
    private static final class Land {
        private int places;
        private int words;
        private int take;
        private int learn;
        private int drop;
        private int start;
        private final int[] tenths = new int[PLACES_MOST * PLACES_MOST];
        private final int[] meanings = new int[WORDS_MOST];
        private final int[] years = new int[WORDS_MOST];
        private final int[] homes = new int[WORDS_MOST];
        private final boolean[] plain = new boolean[WORDS_MOST];

        Land() {
            reset();
        }

        private void reset() {
            places = 0;
            words = 0;
            take = 6;
            learn = 3;
            drop = 5;
            start = 20;
            Arrays.fill(tenths, 0);
        }

        private int nearness(int p, int q) {
            return tenths[p * PLACES_MOST + q];
        }

        private void bringNear(int p, int q, int v) {
            tenths[p * PLACES_MOST + q] = v;
            tenths[q * PLACES_MOST + p] = v;
        }

        private void addWord(int meaning, int year, int home, boolean isPlain) {
            meanings[words] = meaning;
            years[words] = year;
            homes[words] = home;
            plain[words] = isPlain;
            words++;
        }
    }

    /** THE TEXT, read token by token. */
    private static final class Reader {
        private static final int END = 0;
        private static final int FOREIGN = 1;
        private static final int SEMICOLON = 2;
        private static final int NUMBER = 3;
        private static final int LETTERS = 4;

        private final char[] text = new char[TEXT_MOST];
        private int length;
        /** Of the token that stands now: its kind, its first byte, the byte behind it, its number. */
        private int kind;
        private int first;
        private int behind;
        private int value;
        private boolean lawTold;
        private boolean startTold;

        private boolean append(long v, int n) {
            if (n > TEXT_MOST - length) {
                return false;
            }
            for (int i = n - 1; i >= 0; i--) {
                text[length] = (char) (v >>> (8 * i) & 255);
                length++;
            }
            return true;
        }

        /** How many items were read, or -10 less the fault. */
        private int readInto(Land land) {
            land.reset();
            lawTold = false;
            startTold = false;
            behind = 0;
            next();
            int items = 0;
            while (items < TEXT_MOST && kind != END) {
                if (!readItem(land)) {
                    return -10 - first;
                }
                items++;
                next();
            }
            return items;
        }

        private boolean readItem(Land land) {
            if (spells("place")) {
                return readPlace(land);
            }
            if (spells("near")) {
                return readNear(land);
            }
            if (spells("law")) {
                return readLaw(land);
            }
            if (spells("start")) {
                return readStart(land);
            }
            return spells("word") && readWord(land);
        }

        private boolean readPlace(Land land) {
            if (land.places >= PLACES_MOST || !nextEnds()) {
                return false;
            }
            land.places++;
            return true;
        }

        private boolean readNear(Land land) {
            if (!nextIsNumber(0, land.places - 1)) {
                return false;
            }
            int a = value;
            if (!nextIsNumber(0, land.places - 1) || value == a) {
                return false;
            }
            int b = value;
            if (!nextIsNumber(0, 9)) {
                return false;
            }
            land.bringNear(a, b, value);
            return nextEnds();
        }

        private boolean readLaw(Land land) {
            if (lawTold || !nextIsNumber(0, 9)) {
                return false;
            }
            land.take = value;
            if (!nextIsNumber(0, 9)) {
                return false;
            }
            land.learn = value;
            if (!nextIsNumber(0, 9)) {
                return false;
            }
            land.drop = value;
            lawTold = true;
            return nextEnds();
        }

        private boolean readStart(Land land) {
            if (startTold || !nextIsNumber(1, 99)) {
                return false;
            }
            land.start = value;
            startTold = true;
            return nextEnds();
        }

        private boolean readWord(Land land) {
            if (land.words >= WORDS_MOST || !nextIsNumber(0, 3)) {
                return false;
            }
            int meaning = value;
            if (!nextIsNumber(0, 90)) {
                return false;
            }
            int year = value;
            if (!nextIsNumber(0, land.places - 1)) {
                return false;
            }
            int home = value;
            next();
            boolean isPlain = spells("plain");
            if (isPlain) {
                next();
            }
            land.addWord(meaning, year, home, isPlain);
            return kind == SEMICOLON;
        }

        private boolean nextIsNumber(int least, int most) {
            next();
            return kind == NUMBER && between(value, least, most);
        }

        private boolean nextEnds() {
            next();
            return kind == SEMICOLON;
        }

        private void next() {
            while (behind < length && text[behind] == ' ') {
                behind++;
            }
            first = behind;
            if (first >= length) {
                kind = END;
            } else if (isDigit(text[first])) {
                takeNumber();
            } else if (isLetter(text[first])) {
                takeLetters();
            } else {
                kind = text[first] == ';' ? SEMICOLON : FOREIGN;
                behind++;
            }
        }

        private void takeNumber() {
            value = 0;
            while (behind < length && isDigit(text[behind])) {
                value = value * 10 + text[behind] - '0';
                behind++;
            }
            int digits = behind - first;
            kind = digits == 1 || digits == 2 && text[first] != '0' ? NUMBER : FOREIGN;
        }

        private void takeLetters() {
            while (behind < length && isLetter(text[behind])) {
                behind++;
            }
            kind = LETTERS;
        }

        private boolean spells(String name) {
            if (behind - first != name.length()) {
                return false;
            }
            for (int i = 0; i < name.length(); i++) {
                if (text[first + i] != name.charAt(i)) {
                    return false;
                }
            }
            return true;
        }

        private static boolean isDigit(char c) {
            return c >= '0' && c <= '9';
        }

        private static boolean isLetter(char c) {
            return c >= 'a' && c <= 'z';
        }
    }

    /** Songs, in the order in which they came. */
    private static final class Songs {
        private int size;
        private final int[] years = new int[SONGS_MOST];
        private final int[] words = new int[SONGS_MOST];
        private final int[] places = new int[SONGS_MOST];
        private final int[] hundredths = new int[SONGS_MOST];

        private void add(int year, int w, int p, int g) {
            years[size] = year;
            words[size] = w;
            places[size] = p;
            hundredths[size] = g;
            size++;
        }

        private void copyFrom(Songs other) {
            size = other.size;
            System.arraycopy(other.years, 0, years, 0, SONGS_MOST);
            System.arraycopy(other.words, 0, words, 0, SONGS_MOST);
            System.arraycopy(other.places, 0, places, 0, SONGS_MOST);
            System.arraycopy(other.hundredths, 0, hundredths, 0, SONGS_MOST);
        }
    }

    /** One word's shares, and what its young and its parents were at each year's begin so far. */
    private static final class Life {
        private final int[][] shares = new int[PLACES_MOST][OLDEST + 1];
        private final int[][] youngs = new int[PLACES_MOST][LAST_YEAR + 1];
        private final int[] youngMeans = new int[LAST_YEAR + 1];
        private final int[] parentMeans = new int[LAST_YEAR + 1];

        private void copyFrom(Life other) {
            for (int p = 0; p < PLACES_MOST; p++) {
                System.arraycopy(other.shares[p], 0, shares[p], 0, OLDEST + 1);
                System.arraycopy(other.youngs[p], 0, youngs[p], 0, LAST_YEAR + 1);
            }
            System.arraycopy(other.youngMeans, 0, youngMeans, 0, LAST_YEAR + 1);
            System.arraycopy(other.parentMeans, 0, parentMeans, 0, LAST_YEAR + 1);
        }

        private int measure(int p, int who) {
            switch (who) {
                case YOUNG: return total(p, FIRST_YOUNG, LAST_YOUNG) / 7;
                case PARENTS: return total(p, FIRST_PARENTS, LAST_PARENTS) / 16;
                default: return total(p, YOUNGEST, OLDEST) / 60;
            }
        }

        private int total(int p, int first, int last) {
            int sum = 0;
            for (int age = first; age <= last; age++) {
                sum += shares[p][age];
            }
            return sum;
        }

        /** The word's whole life from year 0 on, up to the begin of a year. */
        private void replay(Land land, Songs songs, int w, int learn, int lastYear) {
            begin(land, songs, w);
            for (int year = 0; year < lastYear; year++) {
                pass(land, songs, w, learn, year);
            }
        }

        private void begin(Land land, Songs songs, int w) {
            for (int p = 0; p < PLACES_MOST; p++) {
                Arrays.fill(shares[p], 0);
            }
            arrive(land, songs, w, 0);
            note(land.places, 0);
        }

        private void pass(Land land, Songs songs, int w, int learn, int year) {
            if (land.years[w] <= year) {
                for (int p = 0; p < land.places; p++) {
                    int parents = land.plain[w] ? 0 : measure(p, PARENTS);
                    growOlder(p);
                    takeUp(p, land.take * heard(land, p, year), parents);
                    dropIt(p, land.drop * parents);
                    learnIt(p, learn * youngTwoAhead(p, year));
                }
            }
            arrive(land, songs, w, year + 1);
            note(land.places, year + 1);
        }

        /** By the notes of the year's begin: the shares of places that come first have changed already. */
        private int heard(Land land, int p, int year) {
            int sum = youngs[p][year];
            for (int q = 0; q < land.places; q++) {
                if (q != p) {
                    sum += land.nearness(p, q) * youngs[q][year] / 10;
                }
            }
            return Math.min(sum, WHOLE);
        }

        private int youngTwoAhead(int p, int year) {
            return year >= 2 ? youngs[p][year - 2] : 0;
        }

        private void growOlder(int p) {
            System.arraycopy(shares[p], YOUNGEST, shares[p], YOUNGEST + 1, OLDEST - YOUNGEST);
            shares[p][YOUNGEST] = 0;
        }

        private void takeUp(int p, long strength, int parents) {
            for (int age = FIRST_YOUNG; age <= LAST_YOUNG; age++) {
                int share = shares[p][age];
                long more = strength * (WHOLE - share) * (WHOLE - parents) / 10000000;
                shares[p][age] = share + (int) more;
            }
        }

        private void dropIt(int p, int strength) {
            for (int age = YOUNGEST; age <= LAST_YOUNG; age++) {
                int share = shares[p][age];
                shares[p][age] = share - strength * share / 10000;
            }
        }

        private void learnIt(int p, int strength) {
            for (int age = FIRST_PARENTS; age <= LAST_PARENTS; age++) {
                int share = shares[p][age];
                shares[p][age] = share + strength * (WHOLE - share) / 10000;
            }
        }

        /** A year begins: the word is coined, if it is its year, and its songs of the year are heard. */
        private void arrive(Land land, Songs songs, int w, int year) {
            if (land.years[w] == year) {
                raise(land.homes[w], 15, 17, 10 * land.start);
            }
            if (land.years[w] <= year) {
                for (int i = 0; i < songs.size; i++) {
                    if (songs.years[i] == year && songs.words[i] == w) {
                        raise(songs.places[i], FIRST_YOUNG, LAST_YOUNG, 10 * songs.hundredths[i]);
                    }
                }
            }
        }

        private void raise(int p, int first, int last, int least) {
            for (int age = first; age <= last; age++) {
                shares[p][age] = Math.max(shares[p][age], least);
            }
        }

        private void note(int places, int year) {
            int youngSum = 0;
            int parentSum = 0;
            for (int p = 0; p < places; p++) {
                youngs[p][year] = measure(p, YOUNG);
                youngSum += youngs[p][year];
                parentSum += measure(p, PARENTS);
            }
            youngMeans[year] = mean(youngSum, places);
            parentMeans[year] = mean(parentSum, places);
        }

        private int peakYear(int lastYear) {
            int best = 0;
            for (int year = 1; year <= lastYear; year++) {
                if (youngMeans[year] > youngMeans[best]) {
                    best = year;
                }
            }
            return best;
        }

        private int peak(int lastYear) {
            return youngMeans[peakYear(lastYear)];
        }

        private int overYear(int lastYear) {
            for (int year = peakYear(lastYear) + 1; year <= lastYear; year++) {
                if (youngMeans[year] < OVER_BELOW) {
                    return year;
                }
            }
            return NONE;
        }

        /** The first year in which the parents have it well enough for print. */
        private int parentsYear(int lastYear) {
            for (int year = 0; year <= lastYear; year++) {
                if (parentMeans[year] >= PRINTED_FROM) {
                    return year;
                }
            }
            return NONE;
        }

        private int keptAge(int places) {
            int best = YOUNGEST;
            int most = 0;
            for (int age = YOUNGEST; age <= OLDEST; age++) {
                int sum = 0;
                for (int p = 0; p < places; p++) {
                    sum += shares[p][age];
                }
                if (sum > most) {
                    most = sum;
                    best = age;
                }
            }
            return best;
        }
    }

    /** All that an image keeps: the year, the songs, the words' lives, the lot. */
    private static final class Moment {
        private int year;
        private int lot;
        private final Songs songs = new Songs();
        private final Life[] lives = new Life[WORDS_MOST];

        Moment() {
            for (int w = 0; w < WORDS_MOST; w++) {
                lives[w] = new Life();
            }
        }

        private void begin(Land land) {
            year = 0;
            songs.size = 0;
            for (int w = 0; w < land.words; w++) {
                lives[w].begin(land, songs, w);
            }
        }

        private void pass(Land land) {
            for (int w = 0; w < land.words; w++) {
                lives[w].pass(land, songs, w, land.learn, year);
            }
            year++;
        }

        private void copyFrom(Moment other) {
            year = other.year;
            lot = other.lot;
            songs.copyFrom(other.songs);
            for (int w = 0; w < WORDS_MOST; w++) {
                lives[w].copyFrom(other.lives[w]);
            }
        }
    }

    /** A letter, as it tells of itself. */
    private static final class Letter {
        private boolean told;
        private int words;
        private int year;
        private int age;
        private int place;
        private final int[] shares = new int[WORDS_MOST];
    }

    /** Writings: each by the year in which its writer was 16, and its word. */
    private static final class Writings {
        private int size;
        private final int[] years = new int[WRITINGS_MOST];
        private final int[] words = new int[WRITINGS_MOST];

        private void add(int year, int w) {
            years[size] = year;
            words[size] = w;
            size++;
        }

        private int countOf(int w) {
            int with = 0;
            for (int i = 0; i < size; i++) {
                if (words[i] == w) {
                    with++;
                }
            }
            return with;
        }

        private int sum(int w) {
            int sum = 0;
            for (int i = 0; i < size; i++) {
                if (words[i] == w) {
                    sum += years[i];
                }
            }
            return sum;
        }

        private int least(int w) {
            int least = LAST_YEAR + WRITER_AGE;
            for (int i = 0; i < size; i++) {
                if (words[i] == w) {
                    least = Math.min(least, years[i]);
                }
            }
            return least;
        }

        private int greatest(int w) {
            int greatest = -OLDEST;
            for (int i = 0; i < size; i++) {
                if (words[i] == w) {
                    greatest = Math.max(greatest, years[i]);
                }
            }
            return greatest;
        }
    }
}
