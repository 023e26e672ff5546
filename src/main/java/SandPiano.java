import java.util.Arrays;

/** The sand piano; ../shared/DOC.md says what each public method promises. */
public final class SandPiano {
    public static final int BAD = -1, FULL = -2, FINDING = -3, STATE = -4, SPENT = -6, NONE = -9;

    private static final int NOTHING = 1, BEYOND = 2, UNLIKE = 3, NOUGHT = 4, SIZE = 5;
    private static final int KEY = 0, BASS = 1, SHELL = 2, CRAB = 3, DRUM = 4, RING = 5;
    private static final int[] LETTERS = {107, 98, 115, 99, 100, 114};
    private static final int[] PARENTS = {KEY, KEY, KEY, KEY, BASS, SHELL};

    private static final int ROWS = 6, ROW_SIZE = 40;
    private static final int TEXTS = 4, TEXT_SIZE = 60;
    private static final int KEPT = 3;
    private static final int MOST_KEYS = 6;
    private static final int MOST_DEEDS = 60;
    private static final int MOST_PIECE = 12;
    private static final int MOST_DIGS = 4;
    private static final int MOST_TIDES = 20;
    private static final int MOST_SPADE = 9, MOST_HEIGHT = 9;
    private static final int MOST_BEST = 5, MOST_BET = 5, MOST_ROWS = 4, MOST_BACK = 4;
    private static final int MOST_SAND_TOLD = 999;
    private static final int KEY_TELLS = 5, COUNTS = 9;
    private static final int BLANK = 32, ZERO = 48, FIRST_LETTER = 112;
    private static final long LOT_FACTOR = 48271L, LOT_MODULUS = 2147483647L;

    private final Shelf rows = new Shelf(ROWS, ROW_SIZE);
    private final Shelf texts = new Shelf(TEXTS, TEXT_SIZE);
    private final Search search = new Search();
    // The piano's keys are the ones that are searched.
    private final Keys keys = search.keys;
    private final Sand now = new Sand();
    private final Sand aside = new Sand();
    private final Sand asideToo = new Sand();
    private final Story story = new Story();
    private final Story[] kept = new Story[KEPT];
    private final Reader reader = new Reader();
    private final int[] found = new int[SIZE + 1];
    private int lastFound;
    private int told;
    private long chanceUpper;
    private long chanceLower = 1;

    public SandPiano() {
        for (int k = 0; k < KEPT; k++) {
            kept[k] = new Story();
        }
    }

    // ---- 1 rows, texts, pianos

    public int row(int r, int n) {
        if (!rows.isNumber(r) || n > ROW_SIZE) {
            return BAD;
        }
        if (n < 0) {
            return refuse(SIZE);
        }
        rows.make(r, n, 0);
        return n;
    }

    public int lay(int r, int i, int v) {
        if (!rows.isNumber(r)) {
            return BAD;
        }
        int wrong = placeWrong(rows, r, i);
        if (wrong != 0) {
            return refuse(wrong);
        }
        told = rows.get(r, i);
        rows.set(r, i, v);
        return 1;
    }

    public int at(int r, int i) {
        if (!rows.isNumber(r)) {
            return BAD;
        }
        int wrong = placeWrong(rows, r, i);
        if (wrong != 0) {
            return refuse(wrong);
        }
        told = rows.get(r, i);
        return 1;
    }

    public int tear(int r) {
        if (!rows.isNumber(r)) {
            return BAD;
        }
        if (!rows.isThere(r)) {
            return refuse(NOTHING);
        }
        rows.drop(r);
        return 1;
    }

    public int copy(int r, int i, int to, int j, int n) {
        if (!rows.isNumber(r) || !rows.isNumber(to)) {
            return BAD;
        }
        if (n < 0) {
            return refuse(SIZE);
        }
        if (!rows.isThere(r) || !rows.isThere(to)) {
            return refuse(NOTHING);
        }
        if (!rows.hasSpan(r, i, n) || !rows.hasSpan(to, j, n)) {
            return refuse(BEYOND);
        }
        rows.move(r, i, to, j, n);
        return 1;
    }

    public int mean(int r) {
        if (!rows.isNumber(r)) {
            return BAD;
        }
        if (!rows.isThere(r)) {
            return refuse(NOTHING);
        }
        int size = rows.sizeOf(r);
        if (size <= 0) {
            return refuse(NOUGHT);
        }
        long sum = 0;
        for (int i = 0; i < size; i++) {
            sum += rows.get(r, i);
        }
        told = (int) (sum / size);
        return 1;
    }

    public int text(int t, int n) {
        if (!texts.isNumber(t) || n > TEXT_SIZE) {
            return BAD;
        }
        if (n < 0) {
            return refuse(SIZE);
        }
        texts.make(t, n, BLANK);
        return n;
    }

    public int put(int t, int i, int v) {
        if (!texts.isNumber(t)) {
            return BAD;
        }
        int wrong = placeWrong(texts, t, i);
        if (wrong != 0) {
            return refuse(wrong);
        }
        int was = texts.get(t, i);
        texts.set(t, i, (byte) v);
        return was + 1000;
    }

    public int fault(int t) {
        if (!texts.isNumber(t)) {
            return BAD;
        }
        if (!texts.isThere(t)) {
            return refuse(NOTHING);
        }
        return reader.read(texts, t);
    }

    public int piano(int t) {
        if (!texts.isNumber(t)) {
            return BAD;
        }
        if (!texts.isThere(t)) {
            return refuse(NOTHING);
        }
        if (reader.read(texts, t) != NONE) {
            return STATE;
        }
        keys.take(reader.keys);
        now.take(reader.sand);
        story.begin(now, reader.spade);
        for (int k = 0; k < KEPT; k++) {
            kept[k].there = false;
        }
        return keys.size;
    }

    public int key(int i, int what) {
        if (!keys.isKey(i) || what < 0 || what >= KEY_TELLS) {
            return BAD;
        }
        told = keyTells(i, what);
        return 1;
    }

    public int mark(int i, int kind) {
        if (!keys.isKey(i) || kind < BASS || kind > RING) {
            return BAD;
        }
        if (!keys.isOf(i, kind)) {
            return refuse(UNLIKE);
        }
        switch (kind) {
            case BASS:
                return Math.min(2, now.on[i]);
            case SHELL:
                return Math.max(0, now.on[i] - keys.strength[i]);
            case CRAB:
                return i > 0 ? now.on[i - 1] : now.beach;
            case DRUM:
                return i;
            default:
                return keys.size - Integer.bitCount(keys.playable(now));
        }
    }

    public int spade(int v) {
        if (v < 1 || v > MOST_SPADE) {
            return BAD;
        }
        if (keys.size == 0) {
            return STATE;
        }
        int was = story.spade;
        story.spade = v;
        return was;
    }

    // ---- 2 deeds

    public int play(int i) {
        if (!keys.isKey(i)) {
            return BAD;
        }
        if (!keys.bears(i, now)) {
            return STATE;
        }
        if (story.isFull(1)) {
            return FULL;
        }
        keys.sound(i, now);
        story.add(now);
        return keys.pay[i];
    }

    public int tide(int h) {
        if (h < 0 || h > MOST_HEIGHT) {
            return BAD;
        }
        if (keys.size == 0) {
            return STATE;
        }
        if (story.isFull(1)) {
            return FULL;
        }
        int came = now.flood(h, keys.size);
        story.add(now);
        return came;
    }

    public int storm(int way) {
        if (way < 0 || way > 1) {
            return BAD;
        }
        if (keys.size == 0) {
            return STATE;
        }
        if (story.isFull(1)) {
            return FULL;
        }
        int lost = way == 0 ? now.blowLeft(keys.size) : now.blowRight(keys.size);
        story.add(now);
        return lost;
    }

    public int dig(int i) {
        if (!keys.isKey(i)) {
            return BAD;
        }
        if (story.isFull(1)) {
            return FULL;
        }
        int taken = now.scoop(i, story.spade);
        story.add(now);
        return taken;
    }

    public int undo(int n) {
        if (n < 0 || n > story.deeds) {
            return BAD;
        }
        int undone = story.deeds - n;
        story.deeds = n;
        story.tell(now);
        return undone;
    }

    public int can() {
        return keys.playable(now);
    }

    public int keep(int k) {
        if (k < 0 || k >= KEPT) {
            return BAD;
        }
        if (keys.size == 0) {
            return STATE;
        }
        kept[k].take(story);
        return story.deeds;
    }

    public int on(int k) {
        if (k < 0 || k >= KEPT) {
            return BAD;
        }
        if (!kept[k].there) {
            return refuse(NOTHING);
        }
        story.take(kept[k]);
        story.tell(now);
        return story.deeds;
    }

    // ---- 3 pieces

    public int judge(int r) {
        if (!rows.isNumber(r)) {
            return BAD;
        }
        int wrong = pieceWrong(r);
        if (wrong != 0) {
            return refuse(wrong);
        }
        aside.take(now);
        int stop = keys.soundPiece(rows, r, aside);
        told = aside.beach - now.beach;
        return stop;
    }

    public int earns(int r) {
        if (!rows.isNumber(r)) {
            return BAD;
        }
        int wrong = pieceWrong(r);
        if (wrong != 0) {
            return refuse(wrong);
        }
        aside.take(now);
        keys.soundPiece(rows, r, aside);
        return aside.earned - now.earned;
    }

    public int digs(int r, int to) {
        if (!rows.isNumber(r) || !rows.isNumber(to)) {
            return BAD;
        }
        int wrong = pieceWrong(r);
        if (wrong != 0) {
            return refuse(wrong);
        }
        int fewest = search.fewestDigs(now, story.spade, rows, r);
        search.layFound(rows, to);
        return fewest;
    }

    public int lasts(int r, int h) {
        if (!rows.isNumber(r) || h < 0 || h > MOST_HEIGHT) {
            return BAD;
        }
        int wrong = pieceWrong(r);
        if (wrong != 0) {
            return refuse(wrong);
        }
        aside.take(now);
        for (int tides = 0; tides < MOST_TIDES; tides++) {
            aside.flood(h, keys.size);
            asideToo.take(aside);
            if (keys.soundPiece(rows, r, asideToo) < rows.sizeOf(r)) {
                return tides;
            }
        }
        return MOST_TIDES;
    }

    public int duet(int k, int r) {
        if (k < 0 || k >= KEPT || !rows.isNumber(r)) {
            return BAD;
        }
        int wrong = kept[k].there ? pieceWrong(r) : NOTHING;
        if (wrong != 0) {
            return refuse(wrong);
        }
        aside.take(now);
        kept[k].tell(asideToo);
        int size = rows.sizeOf(r);
        for (int i = 0; i < size; i++) {
            Sand turn = i % 2 == 0 ? aside : asideToo;
            int note = rows.get(r, i);
            if (!keys.bears(note, turn)) {
                return i;
            }
            keys.sound(note, turn);
        }
        return size;
    }

    // ---- 4 the most, the best

    public int most(int r) {
        if (!rows.isNumber(r)) {
            return BAD;
        }
        if (keys.size == 0) {
            return STATE;
        }
        int longest = search.mostOnce(now);
        search.layFound(rows, r);
        return longest;
    }

    public int best(int n, int r) {
        if (n < 0 || n > MOST_BEST || !rows.isNumber(r)) {
            return BAD;
        }
        if (keys.size == 0) {
            return STATE;
        }
        int earned = search.bestPaid(now, n);
        search.layFound(rows, r);
        return earned;
    }

    public int rows(int n) {
        if (n < 0 || n > MOST_ROWS) {
            return BAD;
        }
        if (keys.size == 0) {
            return STATE;
        }
        int ways = search.countWays(now, n);
        told = search.unlikeSands();
        return ways;
    }

    // ---- 5 what was played, the ring

    public int back(int r, int n, int to) {
        if (!rows.isNumber(r) || !rows.isNumber(to) || n < 0 || n > MOST_BACK) {
            return BAD;
        }
        if (keys.size == 0) {
            return STATE;
        }
        int wrong = sandWrong(r);
        if (wrong != 0) {
            return refuse(wrong);
        }
        aside.clear();
        for (int i = 0; i < keys.size; i++) {
            aside.on[i] = rows.get(r, i);
        }
        int ways = search.countWaysTo(aside, now, n);
        search.layFound(rows, to);
        return ways;
    }

    public int ring(int r) {
        if (!rows.isNumber(r)) {
            return BAD;
        }
        int wrong = songWrong(r);
        if (wrong != 0) {
            return refuse(wrong);
        }
        return ringPlaces(r);
    }

    public int strike(int r) {
        if (!rows.isNumber(r)) {
            return BAD;
        }
        int wrong = songWrong(r);
        if (wrong != 0) {
            return refuse(wrong);
        }
        int places = ringPlaces(r);
        if (places == 0) {
            return NONE;
        }
        int choice = 0;
        int fewest = keys.size + 1;
        for (int i = 0; i < keys.size; i++) {
            int near = keys.near(i);
            int left = Math.max(Integer.bitCount(places & near), Integer.bitCount(places & ~near));
            if (left < fewest) {
                fewest = left;
                choice = i;
            }
        }
        told = fewest;
        return choice;
    }

    // ---- 6 the wind

    public int tune(int r) {
        if (!rows.isNumber(r)) {
            return BAD;
        }
        int wrong = pieceWrong(r);
        if (wrong != 0) {
            return refuse(wrong);
        }
        aside.take(now);
        long parts = 1;
        for (int i = 0; i < rows.sizeOf(r); i++) {
            int note = rows.get(r, i);
            if (!keys.bears(note, aside)) {
                return tellChances(0, 1);
            }
            parts *= Integer.bitCount(keys.playable(aside));
            keys.sound(note, aside);
        }
        return tellChances(1, parts);
    }

    public int bet(int i, int n) {
        if (!keys.isKey(i) || n < 0 || n > MOST_BET) {
            return BAD;
        }
        return tellChances(search.windShares(now, i, n), Search.wholeShares(n));
    }

    public int wind(int n, int seed) {
        if (n < 1 || n > MOST_DEEDS || seed < 1 || seed >= LOT_MODULUS) {
            return BAD;
        }
        if (keys.size == 0) {
            return STATE;
        }
        if (story.isFull(n)) {
            return FULL;
        }
        long lot = seed;
        for (int notes = 0; notes < n; notes++) {
            int playable = keys.playable(now);
            int choices = Integer.bitCount(playable);
            if (choices == 0) {
                return notes;
            }
            lot = lot * LOT_FACTOR % LOT_MODULUS;
            keys.sound(bitAt(playable, (int) (lot % choices)), now);
            story.add(now);
        }
        return n;
    }

    // ---- 7 what is told

    public int asked() {
        return told;
    }

    public long upper() {
        return chanceUpper;
    }

    public long lower() {
        return chanceLower;
    }

    public int count(int what) {
        if (what < 0 || what >= COUNTS) {
            return BAD;
        }
        return countOf(what);
    }

    public int finding() {
        return lastFound;
    }

    public int findings(int f) {
        if (f < NOTHING || f > SIZE) {
            return BAD;
        }
        return found[f];
    }

    public long digest() {
        long h = 17;
        for (int what = 0; what < COUNTS; what++) {
            h = 31 * h + countOf(what);
        }
        h = 31 * h + story.spade;
        for (int i = 0; i < keys.size; i++) {
            for (int what = 0; what < KEY_TELLS; what++) {
                h = 31 * h + keyTells(i, what);
            }
        }
        for (int k = 0; k < KEPT; k++) {
            h = 31 * h + (kept[k].there ? kept[k].deeds : -1);
        }
        return texts.mix(rows.mix(h));
    }

    // ---- what the calls share

    private int refuse(int finding) {
        lastFound = finding;
        found[finding]++;
        return FINDING;
    }

    private static int placeWrong(Shelf shelf, int r, int i) {
        if (!shelf.isThere(r)) {
            return NOTHING;
        }
        return shelf.hasSpan(r, i, 1) ? 0 : BEYOND;
    }

    private int pieceWrong(int r) {
        if (!rows.isThere(r)) {
            return NOTHING;
        }
        int size = rows.sizeOf(r);
        if (size > MOST_PIECE) {
            return SIZE;
        }
        for (int i = 0; i < size; i++) {
            if (!keys.isKey(rows.get(r, i))) {
                return UNLIKE;
            }
        }
        return 0;
    }

    private int sandWrong(int r) {
        if (!rows.isThere(r)) {
            return NOTHING;
        }
        int size = rows.sizeOf(r);
        if (size != keys.size) {
            return SIZE;
        }
        for (int i = 0; i < size; i++) {
            int grains = rows.get(r, i);
            if (grains < 0 || grains > MOST_SAND_TOLD) {
                return UNLIKE;
            }
        }
        return 0;
    }

    private int songWrong(int r) {
        if (!rows.isThere(r)) {
            return NOTHING;
        }
        int size = rows.sizeOf(r);
        if (size % 2 != 0) {
            return SIZE;
        }
        for (int i = 0; i + 1 < size; i += 2) {
            int sang = rows.get(r, i + 1);
            if (!keys.isKey(rows.get(r, i)) || sang < 0 || sang > 1) {
                return UNLIKE;
            }
        }
        return 0;
    }

    private int ringPlaces(int r) {
        int places = keys.all();
        for (int i = 0; i + 1 < rows.sizeOf(r); i += 2) {
            int near = keys.near(rows.get(r, i));
            places &= rows.get(r, i + 1) == 1 ? near : ~near;
        }
        return places;
    }

    private int keyTells(int i, int what) {
        switch (what) {
            case 0:
                return keys.kind[i];
            case 1:
                return keys.strength[i];
            case 2:
                return now.on[i];
            case 3:
                return keys.pay[i];
            default:
                return keys.bears(i, now) ? 1 : 0;
        }
    }

    private int countOf(int what) {
        switch (what) {
            case 0:
                return keys.size;
            case 1:
                return story.deeds;
            case 2:
                return now.beach;
            case 3:
                return now.sea;
            case 4:
                return now.earned;
            case 5:
                return keys.countOf(BASS);
            case 6:
                return rows.countThere();
            case 7:
                return texts.countThere();
            default:
                return countKept();
        }
    }

    private int countKept() {
        int there = 0;
        for (int k = 0; k < KEPT; k++) {
            if (kept[k].there) {
                there++;
            }
        }
        return there;
    }

    private int tellChances(long part, long whole) {
        long shared = commonDivisor(part, whole);
        if (shared <= 0) {
            return 1;
        }
        chanceUpper = part / shared;
        chanceLower = whole / shared;
        return 1;
    }

    private static long commonDivisor(long a, long b) {
        long big = a;
        long small = b;
        for (int turn = 0; turn < 200 && small != 0; turn++) {
            long rest = big % small;
            big = small;
            small = rest;
        }
        return big;
    }

    private static int bitAt(int bits, int rank) {
        int left = rank;
        for (int i = 0; i < MOST_KEYS; i++) {
            if ((bits >> i & 1) == 1) {
                if (left == 0) {
                    return i;
                }
                left--;
            }
        }
        return 0;
    }

    /** Numbered rows of ints, each of which is there or missing. */
    private static final class Shelf {
        private final int[][] places;
        private final int[] sizes;

        Shelf(int many, int width) {
            places = new int[many][width];
            sizes = new int[many];
            Arrays.fill(sizes, -1);
        }

        boolean isNumber(int r) {
            return r >= 0 && r < sizes.length;
        }

        boolean isThere(int r) {
            return sizes[r] >= 0;
        }

        int sizeOf(int r) {
            return sizes[r];
        }

        // n is taken from the size, since i + n could wrap around.
        boolean hasSpan(int r, int i, int n) {
            return i >= 0 && i <= sizes[r] - n;
        }

        int get(int r, int i) {
            return places[r][i];
        }

        void set(int r, int i, int v) {
            places[r][i] = v;
        }

        void make(int r, int n, int v) {
            sizes[r] = n;
            Arrays.fill(places[r], v);
        }

        void drop(int r) {
            sizes[r] = -1;
        }

        void move(int r, int i, int to, int j, int n) {
            System.arraycopy(places[r], i, places[to], j, n);
        }

        int countThere() {
            int there = 0;
            for (int r = 0; r < sizes.length; r++) {
                if (sizes[r] >= 0) {
                    there++;
                }
            }
            return there;
        }

        long mix(long start) {
            long h = start;
            for (int r = 0; r < sizes.length; r++) {
                h = 31 * h + sizes[r];
                for (int i = 0; i < sizes[r]; i++) {
                    h = 31 * h + places[r][i];
                }
            }
            return h;
        }
    }

    /** What lies where, and what came of it so far. */
    private static final class Sand {
        static final int FIGURES = MOST_KEYS + 3;

        final int[] on = new int[MOST_KEYS];
        int beach;
        int sea;
        int earned;

        void clear() {
            Arrays.fill(on, 0);
            beach = 0;
            sea = 0;
            earned = 0;
        }

        void take(Sand other) {
            System.arraycopy(other.on, 0, on, 0, MOST_KEYS);
            beach = other.beach;
            sea = other.sea;
            earned = other.earned;
        }

        boolean liesLike(Sand other, int size) {
            for (int i = 0; i < size; i++) {
                if (on[i] != other.on[i]) {
                    return false;
                }
            }
            return true;
        }

        void toss(int from, int to, int grains, int size) {
            int moved = Math.min(grains, on[from]);
            on[from] -= moved;
            if (to < 0 || to >= size) {
                beach += moved;
            } else {
                on[to] += moved;
            }
        }

        void fetchFromBeach() {
            if (beach > 0) {
                beach--;
                on[0]++;
            }
        }

        int flood(int height, int size) {
            int came = 0;
            for (int i = 0; i < size && i < height; i++) {
                on[i] += height - i;
                came += height - i;
            }
            sea += came;
            return came;
        }

        int blowLeft(int size) {
            int lost = on[0];
            for (int i = 0; i + 1 < size; i++) {
                on[i] = on[i + 1];
            }
            on[size - 1] = 0;
            beach += lost;
            return lost;
        }

        int blowRight(int size) {
            int lost = on[size - 1];
            for (int i = size - 1; i > 0; i--) {
                on[i] = on[i - 1];
            }
            on[0] = 0;
            beach += lost;
            return lost;
        }

        int scoop(int i, int spade) {
            int taken = Math.min(spade, on[i]);
            on[i] -= taken;
            beach += taken;
            return taken;
        }
    }

    /** The keys as a text told them, and what they do with the sand. */
    private static final class Keys {
        final int[] kind = new int[MOST_KEYS];
        final int[] strength = new int[MOST_KEYS];
        final int[] pay = new int[MOST_KEYS];
        int size;

        void take(Keys other) {
            size = other.size;
            System.arraycopy(other.kind, 0, kind, 0, MOST_KEYS);
            System.arraycopy(other.strength, 0, strength, 0, MOST_KEYS);
            System.arraycopy(other.pay, 0, pay, 0, MOST_KEYS);
        }

        boolean isKey(int i) {
            return i >= 0 && i < size;
        }

        boolean isOf(int i, int wanted) {
            return kind[i] == wanted || PARENTS[kind[i]] == wanted;
        }

        int countOf(int wanted) {
            int many = 0;
            for (int i = 0; i < size; i++) {
                if (isOf(i, wanted)) {
                    many++;
                }
            }
            return many;
        }

        int topPay() {
            int top = 0;
            for (int i = 0; i < size; i++) {
                top = Math.max(top, pay[i]);
            }
            return top;
        }

        int all() {
            return (1 << size) - 1;
        }

        int near(int i) {
            return (7 << i >> 1) & all();
        }

        boolean bears(int i, Sand sand) {
            switch (kind[i]) {
                case RING:
                    return true;
                case SHELL:
                    return sand.on[i] <= strength[i] + 2;
                default:
                    return sand.on[i] <= strength[i];
            }
        }

        int playable(Sand sand) {
            int bits = 0;
            for (int i = 0; i < size; i++) {
                if (bears(i, sand)) {
                    bits |= 1 << i;
                }
            }
            return bits;
        }

        void sound(int i, Sand sand) {
            switch (kind[i]) {
                case KEY:
                    sand.toss(i, i + 1, 1, size);
                    break;
                case BASS:
                    sand.toss(i, i - 1, 2, size);
                    break;
                case DRUM:
                    sand.toss(i, i - 1, 1, size);
                    sand.toss(i, i + 1, 1, size);
                    break;
                case CRAB:
                    if (i == 0) {
                        sand.fetchFromBeach();
                    } else {
                        sand.toss(i - 1, i, 1, size);
                    }
                    break;
                default:
                    break;
            }
            sand.earned += pay[i];
        }

        /** Which note of a piece can't be played first; as many as there are, if none. */
        int soundPiece(Shelf rows, int r, Sand sand) {
            int notes = rows.sizeOf(r);
            for (int i = 0; i < notes; i++) {
                int note = rows.get(r, i);
                if (!bears(note, sand)) {
                    return i;
                }
                sound(note, sand);
            }
            return notes;
        }
    }

    /** The deeds of a piano, told by the sand behind each of them, so that undoing is turning back pages. */
    private static final class Story {
        private final int[] pages = new int[(MOST_DEEDS + 1) * Sand.FIGURES];
        int deeds;
        int spade = 1;
        boolean there;

        void begin(Sand sand, int firstSpade) {
            deeds = 0;
            spade = firstSpade;
            write(sand);
        }

        boolean isFull(int more) {
            return deeds + more > MOST_DEEDS;
        }

        void add(Sand sand) {
            if (!isFull(1)) {
                deeds++;
                write(sand);
            }
        }

        private void write(Sand sand) {
            int page = deeds * Sand.FIGURES;
            System.arraycopy(sand.on, 0, pages, page, MOST_KEYS);
            pages[page + MOST_KEYS] = sand.beach;
            pages[page + MOST_KEYS + 1] = sand.sea;
            pages[page + MOST_KEYS + 2] = sand.earned;
        }

        void tell(Sand sand) {
            int page = deeds * Sand.FIGURES;
            System.arraycopy(pages, page, sand.on, 0, MOST_KEYS);
            sand.beach = pages[page + MOST_KEYS];
            sand.sea = pages[page + MOST_KEYS + 1];
            sand.earned = pages[page + MOST_KEYS + 2];
        }

        void take(Story other) {
            deeds = other.deeds;
            spade = other.spade;
            there = true;
            System.arraycopy(other.pages, 0, pages, 0, (deeds + 1) * Sand.FIGURES);
        }
    }

    /** Reads a piano from a text into a draft, so that a text with a fault changes no piano. */
    private static final class Reader {
        private static final int KEY_LENGTH = 5;

        final Keys keys = new Keys();
        final Sand sand = new Sand();
        int spade = 1;

        /** The place of the fault, or NONE. */
        int read(Shelf texts, int t) {
            int size = texts.sizeOf(t);
            keys.size = 0;
            sand.clear();
            int place = skipBlanks(texts, t, 0);
            if (place < size && texts.get(t, place) != FIRST_LETTER) {
                return place;
            }
            if (place + 1 >= size) {
                return size;
            }
            spade = figure(texts, t, place + 1);
            if (spade < 1) {
                return place + 1;
            }
            return readKeys(texts, t, place + 2);
        }

        private int readKeys(Shelf texts, int t, int start) {
            int size = texts.sizeOf(t);
            int place = skipBlanks(texts, t, start);
            for (int i = 0; i < MOST_KEYS && place < size; i++) {
                int wrong = readKey(texts, t, place, i);
                if (wrong != NONE) {
                    return wrong;
                }
                keys.size = i + 1;
                place = skipBlanks(texts, t, place + KEY_LENGTH);
            }
            return place < size ? place : NONE;
        }

        private int readKey(Shelf texts, int t, int place, int i) {
            int kind = kindOf(texts.get(t, place));
            if (kind == NONE) {
                return place;
            }
            int number = 0;
            for (int p = place + 1; p < place + KEY_LENGTH; p++) {
                if (p >= texts.sizeOf(t)) {
                    return p;
                }
                int figure = figure(texts, t, p);
                if (figure < 0) {
                    return p;
                }
                number = number * 10 + figure;
            }
            keys.kind[i] = kind;
            keys.strength[i] = number / 1000;
            sand.on[i] = number / 10 % 100;
            keys.pay[i] = number % 10;
            return NONE;
        }

        private static int skipBlanks(Shelf texts, int t, int start) {
            int place = start;
            while (place < texts.sizeOf(t) && texts.get(t, place) == BLANK) {
                place++;
            }
            return place;
        }

        private static int figure(Shelf texts, int t, int place) {
            int value = texts.get(t, place) - ZERO;
            return value >= 0 && value <= 9 ? value : -1;
        }

        private static int kindOf(int letter) {
            for (int kind = 0; kind < LETTERS.length; kind++) {
                if (LETTERS[kind] == letter) {
                    return kind;
                }
            }
            return NONE;
        }
    }

    /** Goes through rows of notes in their order, aside; a level of the way has a sand of its own. */
    private static final class Search {
        // The least number that 1 .. 6 choices divide: shares stay whole.
        private static final long SHARES = 60;

        final Keys keys = new Keys();
        private final Sand[] behind = new Sand[MOST_KEYS + 1];
        private final int[] way = new int[MOST_KEYS];
        private final int[] first = new int[MOST_KEYS];
        private final SandSet unlike = new SandSet();
        private int firstSize = -1;
        private int top;
        private int topPay;

        Search() {
            for (int depth = 0; depth <= MOST_KEYS; depth++) {
                behind[depth] = new Sand();
            }
        }

        private boolean hasFound() {
            return firstSize >= 0;
        }

        /** The row that was found comes to a shelf; if none was, the shelf stays as it is. */
        void layFound(Shelf rows, int r) {
            if (!hasFound()) {
                return;
            }
            rows.make(r, firstSize, 0);
            for (int i = 0; i < firstSize; i++) {
                rows.set(r, i, first[i]);
            }
        }

        private void begin(Sand from) {
            behind[0].take(from);
            behind[0].earned = 0;
            firstSize = -1;
        }

        private void remember(int notes) {
            firstSize = notes;
            System.arraycopy(way, 0, first, 0, notes);
        }

        private boolean step(int depth, int i) {
            if (depth >= MOST_KEYS || !keys.bears(i, behind[depth])) {
                return false;
            }
            way[depth] = i;
            behind[depth + 1].take(behind[depth]);
            keys.sound(i, behind[depth + 1]);
            return true;
        }

        int fewestDigs(Sand from, int spade, Shelf rows, int r) {
            for (int many = 0; many <= MOST_DIGS; many++) {
                begin(from);
                if (digOn(0, many, 0, spade, rows, r)) {
                    remember(many);
                    return many;
                }
            }
            return NONE;
        }

        private boolean digOn(int depth, int many, int least, int spade, Shelf rows, int r) {
            if (depth >= MOST_KEYS) {
                return false;
            }
            Sand next = behind[depth + 1];
            if (depth == many) {
                next.take(behind[depth]);
                return keys.soundPiece(rows, r, next) == rows.sizeOf(r);
            }
            for (int i = least; i < keys.size; i++) {
                way[depth] = i;
                next.take(behind[depth]);
                next.scoop(i, spade);
                if (digOn(depth + 1, many, i, spade, rows, r)) {
                    return true;
                }
            }
            return false;
        }

        int mostOnce(Sand from) {
            begin(from);
            onceOn(0, 0);
            return firstSize;
        }

        private void onceOn(int depth, int used) {
            if (depth > firstSize) {
                remember(depth);
            }
            for (int i = 0; i < keys.size && firstSize < keys.size; i++) {
                if ((used >> i & 1) == 0 && step(depth, i)) {
                    onceOn(depth + 1, used | 1 << i);
                }
            }
        }

        int bestPaid(Sand from, int n) {
            begin(from);
            top = NONE;
            topPay = keys.topPay();
            paidOn(0, n);
            return top;
        }

        private void paidOn(int depth, int left) {
            int earned = behind[depth].earned;
            // What can't earn more than the best so far is left out; of alike rows the first stays so.
            if (earned + left * topPay <= top) {
                return;
            }
            if (left == 0) {
                top = earned;
                remember(depth);
                return;
            }
            for (int i = 0; i < keys.size; i++) {
                if (step(depth, i)) {
                    paidOn(depth + 1, left - 1);
                }
            }
        }

        int countWays(Sand from, int n) {
            begin(from);
            unlike.clear();
            return countOn(0, n);
        }

        int unlikeSands() {
            return unlike.size;
        }

        private int countOn(int depth, int left) {
            if (left == 0) {
                unlike.add(behind[depth]);
                return 1;
            }
            int ways = 0;
            for (int i = 0; i < keys.size; i++) {
                if (step(depth, i)) {
                    ways += countOn(depth + 1, left - 1);
                }
            }
            return ways;
        }

        int countWaysTo(Sand from, Sand goal, int n) {
            begin(from);
            return countTo(0, n, goal);
        }

        private int countTo(int depth, int left, Sand goal) {
            if (left == 0) {
                if (!behind[depth].liesLike(goal, keys.size)) {
                    return 0;
                }
                if (!hasFound()) {
                    remember(depth);
                }
                return 1;
            }
            int ways = 0;
            for (int i = 0; i < keys.size; i++) {
                if (step(depth, i)) {
                    ways += countTo(depth + 1, left - 1, goal);
                }
            }
            return ways;
        }

        static long wholeShares(int notes) {
            long whole = 1;
            for (int i = 0; i < notes; i++) {
                whole *= SHARES;
            }
            return whole;
        }

        /** Of wholeShares(n), how many ways of the wind end with the key playable. */
        long windShares(Sand from, int key, int n) {
            begin(from);
            return sharesOn(0, n, key);
        }

        private long sharesOn(int depth, int left, int key) {
            if (left == 0) {
                return keys.bears(key, behind[depth]) ? 1 : 0;
            }
            int choices = Integer.bitCount(keys.playable(behind[depth]));
            if (choices == 0) {
                // The key asked for can't be played either, since none can be.
                return 0;
            }
            long shares = 0;
            for (int i = 0; i < keys.size; i++) {
                if (step(depth, i)) {
                    shares += sharesOn(depth + 1, left - 1, key);
                }
            }
            return shares * (SHARES / choices);
        }
    }

    /** The unlike sands that rows of notes leave. */
    private static final class SandSet {
        // Above 6^4, the most rows of notes that are counted.
        private static final int SLOTS = 2048;
        // 99 told, 9 more by each of 60 deeds, 2 by each of 4 notes: below 1024.
        private static final int SAND_BITS = 10;
        private static final long FREE = -1;
        private static final long SPREAD = 0x9E3779B97F4A7C15L;

        private final long[] slots = new long[SLOTS];
        int size;

        void clear() {
            Arrays.fill(slots, FREE);
            size = 0;
        }

        void add(Sand sand) {
            long packed = 0;
            for (int i = 0; i < MOST_KEYS; i++) {
                packed = packed << SAND_BITS | sand.on[i];
            }
            int slot = (int) (packed * SPREAD >>> 40) & SLOTS - 1;
            for (int tries = 0; tries < SLOTS; tries++) {
                if (slots[slot] == packed) {
                    return;
                }
                if (slots[slot] == FREE) {
                    slots[slot] = packed;
                    size++;
                    return;
                }
                slot = slot + 1 & SLOTS - 1;
            }
        }
    }
}
