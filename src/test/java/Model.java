import java.math.BigInteger;
import java.nio.charset.StandardCharsets;
import java.util.ArrayList;
import java.util.Arrays;
import java.util.List;
import java.util.Map;
import java.util.TreeMap;

/**
 * The document once more, in its plainest form: every year's begin is kept whole, everything else is
 * worked out from those when it is asked for. Slow; for comparison only.
 */
final class Model {
    private static final int BAD = -1;
    private static final int STATE = -2;
    private static final int FULL = -3;
    private static final int NONE = -9;
    private static final int NO = -1000000;

    /** A token: a word, a number or ; , or what can't stand anywhere (""). */
    private record Token(String text, int place) { }

    private record Word(int meaning, int year, int place, boolean plain) { }

    private record Song(int year, int word, int place, int g) { }

    private record Writing(int year, int word) { }

    private record Letter(int words, int year, int age, int place) { }

    /** What an image keeps; the shares are [year][word][place][age]. */
    private record Image(List<int[][][]> begins, List<Song> songs, int lot) { }

    private static final class Land {
        int places = 0;
        Map<Integer, Integer> near = new TreeMap<>();
        int[] law = {6, 3, 5};
        int start = 20;
        List<Word> words = new ArrayList<>();
        int items = 0;
        int fault = -1;
    }

    private String text = "";
    private Land land = new Land();
    private List<int[][][]> begins = new ArrayList<>();
    private List<Song> songs = new ArrayList<>();
    private final List<Writing> writings = new ArrayList<>();
    private Letter letter = null;
    private final Image[] images = new Image[2];
    private int late = 2;
    private int lot = 1;
    private long trace = 0;

    Model() {
        begins = simulated(List.of(), 3, 0);
    }

    // ---- the land

    int type(long v, int n) {
        if (n < 1 || n > 8) {
            return BAD;
        }
        if (text.length() + n > 300) {
            return FULL;
        }
        byte[] all = BigInteger.valueOf(v).add(BigInteger.ONE.shiftLeft(80)).toByteArray();
        byte[] lowest = Arrays.copyOfRange(all, all.length - n, all.length);
        text += new String(lowest, StandardCharsets.ISO_8859_1);
        return text.length();
    }

    int clear() {
        int had = text.length();
        text = "";
        return had;
    }

    int land() {
        Land read = parsed(tokens());
        if (read.fault >= 0) {
            return -10 - read.fault;
        }
        land = read;
        text = "";
        songs = new ArrayList<>();
        writings.clear();
        letter = null;
        Arrays.fill(images, null);
        begins = simulated(songs, land.law[1], 0);
        return land.items;
    }

    private List<Token> tokens() {
        List<Token> found = new ArrayList<>();
        java.util.regex.Matcher m =
            java.util.regex.Pattern.compile(" +|([a-z]+)|([0-9]+)|(;)|(.)", java.util.regex.Pattern.DOTALL).matcher(text);
        while (m.find()) {
            String t = m.group();
            boolean blank = t.charAt(0) == ' ';
            boolean word = m.group(1) != null && List.of("place", "near", "law", "start", "word", "plain").contains(t);
            boolean number = m.group(2) != null && t.matches("0|[1-9][0-9]?");
            if (!blank) {
                found.add(new Token(word || number || t.equals(";") ? t : "", m.start()));
            }
        }
        found.add(new Token("end", text.length()));
        return found;
    }

    private Land parsed(List<Token> tokens) {
        Land read = new Land();
        boolean lawTold = false;
        boolean startTold = false;
        int i = 0;
        while (!tokens.get(i).text.equals("end")) {
            String head = tokens.get(i).text;
            boolean headStands = head.equals("place") && read.places < 3 || head.equals("near")
                || head.equals("law") && !lawTold || head.equals("start") && !startTold
                || head.equals("word") && read.words.size() < 5;
            if (!headStands) {
                read.fault = tokens.get(i).place;
                return read;
            }
            int[] least = {0, 0, 0};
            int[] most = {};
            switch (head) {
                case "near": most = new int[] {read.places - 1, read.places - 1, 9}; break;
                case "law": most = new int[] {9, 9, 9}; break;
                case "start": most = new int[] {99}; least[0] = 1; break;
                case "word": most = new int[] {3, 90, read.places - 1}; break;
                default: break;
            }
            i++;
            int[] v = new int[most.length];
            for (int k = 0; k < most.length; k++, i++) {
                String t = tokens.get(i).text;
                boolean stands = t.matches("[0-9]+");
                if (stands) {
                    v[k] = Integer.parseInt(t);
                    stands = v[k] >= least[k] && v[k] <= most[k] && !(head.equals("near") && k == 1 && v[1] == v[0]);
                }
                if (!stands) {
                    read.fault = tokens.get(i).place;
                    return read;
                }
            }
            boolean plain = head.equals("word") && tokens.get(i).text.equals("plain");
            if (plain) {
                i++;
            }
            if (!tokens.get(i).text.equals(";")) {
                read.fault = tokens.get(i).place;
                return read;
            }
            i++;
            switch (head) {
                case "place": read.places++; break;
                case "near": read.near.put(Math.min(v[0], v[1]) * 3 + Math.max(v[0], v[1]), v[2]); break;
                case "law": read.law = v; lawTold = true; break;
                case "start": read.start = v[0]; startTold = true; break;
                default: read.words.add(new Word(v[0], v[1], v[2], plain)); break;
            }
            read.items++;
        }
        return read;
    }

    int law(int what) {
        int[] all = {land.law[0], land.law[1], land.law[2], land.start, late};
        return what < 0 || what > 4 ? BAD : all[what];
    }

    int late(int v) {
        if (v < 0 || v > 30) {
            return BAD;
        }
        int was = late;
        late = v;
        return was;
    }

    int near(int p, int q) {
        return noPlace(p) || noPlace(q) || p == q ? BAD : nearness(p, q);
    }

    private int nearness(int p, int q) {
        return land.near.getOrDefault(Math.min(p, q) * 3 + Math.max(p, q), 0);
    }

    int word(int w, int what) {
        if (noWord(w) || what < 0 || what > 4) {
            return BAD;
        }
        Word word = land.words.get(w);
        int[] all = {word.meaning, word.year, word.place, word.plain ? 1 : 0, coined(w) ? 1 : 0};
        return all[what];
    }

    // ---- years

    int go(int n) {
        if (n < 1 || n > 99) {
            return BAD;
        }
        if (year() == 99) {
            return STATE;
        }
        int went = 0;
        while (went < n && year() < 99) {
            begins.add(passed(begins, songs, land.law[1]));
            went++;
        }
        return went;
    }

    private int year() {
        return begins.size() - 1;
    }

    private int[][][] passed(List<int[][][]> before, List<Song> sung, int learn) {
        int y = before.size() - 1;
        int[][][] then = before.get(y);
        int[][][] next = new int[land.words.size()][land.places][70];
        for (int w = 0; w < next.length; w++) {
            Word word = land.words.get(w);
            for (int p = 0; p < land.places && word.year <= y; p++) {
                long heard = average(then[w][p], 13, 19);
                for (int q = 0; q < land.places; q++) {
                    heard += q == p ? 0 : nearness(p, q) * average(then[w][q], 13, 19) / 10;
                }
                heard = Math.min(1000, heard);
                long parents = word.plain ? 0 : average(then[w][p], 35, 50);
                long ahead = y - 2 < 0 ? 0 : average(before.get(y - 2)[w][p], 13, 19);
                for (int age = 11; age <= 69; age++) {
                    long s = then[w][p][age - 1];
                    if (age >= 13 && age <= 19) {
                        s += land.law[0] * heard * (1000 - s) * (1000 - parents) / 10_000_000L;
                    }
                    if (age <= 19) {
                        s -= land.law[2] * parents * s / 10_000L;
                    }
                    if (age >= 35 && age <= 50) {
                        s += learn * ahead * (1000 - s) / 10_000L;
                    }
                    next[w][p][age] = (int) s;
                }
            }
        }
        return begun(next, y + 1, sung);
    }

    private int[][][] begun(int[][][] shares, int y, List<Song> sung) {
        for (int w = 0; w < shares.length; w++) {
            if (land.words.get(w).year == y) {
                raise(shares[w][land.words.get(w).place], 15, 17, 10 * land.start);
            }
        }
        for (Song song : sung) {
            if (song.year == y && land.words.get(song.word).year <= y) {
                raise(shares[song.word][song.place], 13, 19, 10 * song.g);
            }
        }
        return shares;
    }

    private static void raise(int[] ages, int a, int b, int least) {
        for (int age = a; age <= b; age++) {
            ages[age] = ages[age] < least ? least : ages[age];
        }
    }

    private List<int[][][]> simulated(List<Song> sung, int learn, int lastYear) {
        List<int[][][]> all = new ArrayList<>();
        all.add(begun(new int[land.words.size()][land.places][70], 0, sung));
        while (all.size() <= lastYear) {
            all.add(passed(all, sung, learn));
        }
        return all;
    }

    private static int average(int[] ages, int a, int b) {
        return Arrays.stream(ages, a, b + 1).sum() / (b - a + 1);
    }

    int anew() {
        int was = year();
        songs = new ArrayList<>();
        begins = simulated(songs, land.law[1], 0);
        return was;
    }

    int share(int w, int p, int age) {
        return noWord(w) || noPlace(p) || noAge(age) ? BAD : now()[w][p][age];
    }

    int has(int w, int p, int who) {
        if (noWord(w) || p != -1 && noPlace(p) || who < 0 || who > 2) {
            return BAD;
        }
        return p == -1 ? mean(now(), w, who) : measured(now()[w][p], who);
    }

    private static int measured(int[] ages, int who) {
        return who == 0 ? average(ages, 13, 19) : who == 1 ? average(ages, 35, 50) : average(ages, 10, 69);
    }

    private int mean(int[][][] shares, int w, int who) {
        return Arrays.stream(shares[w]).mapToInt(ages -> measured(ages, who)).sum() / land.places;
    }

    int song(int w, int p, int g) {
        if (noWord(w) || noPlace(p) || g < 1 || g > 99) {
            return BAD;
        }
        if (!coined(w)) {
            return STATE;
        }
        if (songs.size() == 10) {
            return FULL;
        }
        songs.add(new Song(year(), w, p, g));
        raise(now()[w][p], 13, 19, 10 * g);
        return songs.size();
    }

    int life(int w, int what) {
        if (noWord(w) || what < 0 || what > 3) {
            return BAD;
        }
        if (!coined(w)) {
            return STATE;
        }
        if (what == 3) {
            int[] sums = new int[70];
            for (int[] ages : now()[w]) {
                for (int age = 10; age <= 69; age++) {
                    sums[age] += ages[age];
                }
            }
            int most = Arrays.stream(sums).max().getAsInt();
            int age = 10;
            while (sums[age] != most) {
                age++;
            }
            return age;
        }
        return lifeOf(begins, w)[what];
    }

    /** PEAK, its YEAR, OVER. */
    private int[] lifeOf(List<int[][][]> all, int w) {
        int[] means = all.stream().mapToInt(shares -> mean(shares, w, 0)).toArray();
        int peak = Arrays.stream(means).max().getAsInt();
        int at = 0;
        while (means[at] != peak) {
            at++;
        }
        int over = at + 1;
        while (over < means.length && means[over] >= 100) {
            over++;
        }
        return new int[] {peak, at, over == means.length ? NONE : over};
    }

    int printed(int w, int what) {
        if (noWord(w) || what < 0 || what > 1) {
            return BAD;
        }
        for (int y = 0; y <= year(); y++) {
            if (mean(begins.get(y), w, 1) >= 100) {
                return y + late - (what == 1 ? land.words.get(w).year : 0);
            }
        }
        return NONE;
    }

    // ---- pages, letters

    private BigInteger weight(int[][][] shares, int on, int not, int age, int p) {
        BigInteger weight = BigInteger.ONE;
        for (int w = 0; w < land.words.size(); w++) {
            int bit = 1 << w;
            int by = (on & bit) != 0 ? shares[w][p][age] : (not & bit) != 0 ? 1000 - shares[w][p][age] : 1;
            weight = weight.multiply(BigInteger.valueOf(by));
        }
        return weight;
    }

    private static long part(BigInteger upper, BigInteger lower, int what) {
        BigInteger g = upper.gcd(lower);
        return (what == 0 ? upper : lower).divide(g).longValueExact();
    }

    long old(int on, int not, int a, int b, int what) {
        if (noAge(a) || noAge(b) || a > b || what < 0 || what > 1) {
            return BAD;
        }
        BigInteger some = BigInteger.ZERO;
        BigInteger all = BigInteger.ZERO;
        for (int p = 0; p < land.places; p++) {
            for (int age = 10; age <= 69; age++) {
                BigInteger weight = weight(now(), on, not, age, p);
                all = all.add(weight);
                some = age >= a && age <= b ? some.add(weight) : some;
            }
        }
        return all.signum() == 0 ? STATE : part(some, all, what);
    }

    int likeliest(int on, int not, int what) {
        if (what < 0 || what > 1) {
            return BAD;
        }
        BigInteger greatest = BigInteger.ZERO;
        int[] found = {STATE, STATE};
        for (int age = 69; age >= 10; age--) {
            for (int p = land.places - 1; p >= 0; p--) {
                BigInteger weight = weight(now(), on, not, age, p);
                if (weight.signum() > 0 && weight.compareTo(greatest) >= 0) {
                    greatest = weight;
                    found = new int[] {age, p};
                }
            }
        }
        return found[what];
    }

    int letter(int words, int year, int age, int p) {
        if (year < 0 || year > year() || noAge(age) || noPlace(p)) {
            return BAD;
        }
        int told = 0;
        int many = 0;
        for (int w = 0; w < land.words.size(); w++) {
            if ((words & 1 << w) != 0) {
                told |= 1 << w;
                many++;
            }
        }
        letter = new Letter(told, year, age, p);
        return many;
    }

    int could() {
        if (letter == null || letter.year > year()) {
            return STATE;
        }
        int bits = 0;
        for (int w = 0; w < land.words.size(); w++) {
            boolean none = begins.get(letter.year)[w][letter.place][letter.age] == 0;
            bits |= none ? letter.words & 1 << w : 0;
        }
        return bits;
    }

    long forged(int b, int q, int f, int what) {
        if (noAge(b) || noPlace(q) || f < 0 || f > 10 || what < 0 || what > 1) {
            return BAD;
        }
        if (letter == null || letter.year > year()) {
            return STATE;
        }
        BigInteger forger = weight(now(), letter.words, 0, b, q).multiply(BigInteger.valueOf(f));
        BigInteger writer = weight(begins.get(letter.year), letter.words, 0, letter.age, letter.place)
            .multiply(BigInteger.valueOf(10 - f));
        BigInteger both = forger.add(writer);
        return both.signum() == 0 ? STATE : part(forger, both, what);
    }

    // ---- what they do

    int kills(int w) {
        if (noWord(w) || !coined(w)) {
            return NO;
        }
        int unlearnt = lifeOf(simulated(songs, 0, 99), w)[2];
        int asItIs = lifeOf(simulated(songs, land.law[1], 99), w)[2];
        return (unlearnt == NONE ? 99 : unlearnt) - (asItIs == NONE ? 99 : asItIs);
    }

    int part(int w) {
        if (noWord(w)) {
            return NO;
        }
        return lifeOf(begins, w)[0] - lifeOf(simulated(List.of(), land.law[1], year()), w)[0];
    }

    int writing(int year, int age, int w) {
        if (year < 0 || year > 99 || noAge(age) || noWord(w)) {
            return BAD;
        }
        if (writings.size() == 40) {
            return FULL;
        }
        writings.add(new Writing(year - age + 16, w));
        return writings.size();
    }

    int span(int w, int what) {
        int[] years = writings.stream().filter(x -> x.word == w).mapToInt(x -> x.year).sorted().toArray();
        if (noWord(w) || what < 0 || what > 3 || years.length == 0) {
            return NO;
        }
        if (what < 2) {
            return what == 0 ? years[0] : years[years.length - 1];
        }
        return (int) part(BigInteger.valueOf(Arrays.stream(years).sum()), BigInteger.valueOf(years.length), what - 2);
    }

    int wants(int m) {
        if (m < 0 || m > 3) {
            return BAD;
        }
        boolean had = false;
        for (int w = 0; w < land.words.size(); w++) {
            had |= land.words.get(w).meaning == m && mean(now(), w, 0) >= 200;
        }
        return had ? 0 : 1;
    }

    int drawn(int age, int p) {
        if (noAge(age) || noPlace(p)) {
            return BAD;
        }
        int bits = 0;
        for (int w = 0; w < land.words.size(); w++) {
            lot = (int) (lot * 1103515245L + 12345L);
            int draw = (int) (Integer.toUnsignedLong(lot) / 65536 % 1000);
            bits |= draw < now()[w][p][age] ? 1 << w : 0;
        }
        return bits;
    }

    int lot(int v) {
        int was = lot;
        lot = v;
        return was;
    }

    // ---- kinds, images

    int rate(int kind, int w) {
        return noWord(w) || kind < 0 || kind > 5 ? NO : rated(kind, w);
    }

    private int rated(int kind, int w) {
        int[] above = {-1, 0, 0, 2, 3, 0};
        int[] brackets = {1, 10, 100, 1000, 10000, 100000};
        trace += brackets[kind];
        int up = kind == 0 ? 0 : rated(above[kind], w);
        switch (kind) {
            case 0: return land.words.get(w).year;
            case 1: return up + mean(now(), w, 0);
            case 2: return up + mean(now(), w, 2);
            case 3: return up - mean(now(), w, 1);
            case 4: return up + up;
            default: return up + land.words.get(w).meaning;
        }
    }

    int keep(int image) {
        if (image < 0 || image > 1) {
            return BAD;
        }
        images[image] = copied(new Image(begins, songs, lot));
        return year();
    }

    int back(int image) {
        if (image < 0 || image > 1) {
            return BAD;
        }
        if (images[image] == null) {
            return STATE;
        }
        Image copy = copied(images[image]);
        begins = copy.begins;
        songs = copy.songs;
        lot = copy.lot;
        return year();
    }

    private static Image copied(Image image) {
        List<int[][][]> all = new ArrayList<>();
        for (int[][][] shares : image.begins) {
            int[][][] copy = new int[shares.length][][];
            for (int w = 0; w < shares.length; w++) {
                copy[w] = Arrays.stream(shares[w]).map(int[]::clone).toArray(int[][]::new);
            }
            all.add(copy);
        }
        return new Image(all, new ArrayList<>(image.songs), image.lot);
    }

    int count(int what) {
        int[] all = {land.places, land.words.size(), year(), songs.size(), writings.size(), text.length()};
        return what < 0 || what > 5 ? BAD : all[what];
    }

    long trace() {
        return trace;
    }

    // ---- what there is

    private int[][][] now() {
        return begins.get(year());
    }

    private boolean coined(int w) {
        return land.words.get(w).year <= year();
    }

    private boolean noWord(int w) {
        return w < 0 || w >= land.words.size();
    }

    private boolean noPlace(int p) {
        return p < 0 || p >= land.places;
    }

    private static boolean noAge(int age) {
        return age < 10 || age > 69;
    }
}
