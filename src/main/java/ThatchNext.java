/** Roofs in a row or ring whose old thatch goes next door; ../shared/DOC.md tells every promise by number. */
public final class ThatchNext {
    public static final int NONE = -1;

    private static final int NO_SUCH = -2;
    private static final int BAD_NUMBER = -3;
    private static final int TOO_MANY = -4;
    private static final int NOT_NOW = -5;
    private static final int MISSING = -6;
    private static final int NO_PLACE = -7;
    private static final int TEXT_FAULT = -30;

    private static final int MOST_ROOFS = 10;
    private static final int MOST_DEEP = 6;
    private static final int LAST_YEAR = 999;
    private static final int TAPE_SIZE = 900;
    private static final int FED_BYTES = 20;
    private static final int SEARCHED_ROOFS = 4;
    private static final int MENDED_ROOFS = 7;
    private static final int MOST_WEEKS = 12;
    private static final int MOST_SPARKS = 3;
    private static final int MOST_DRY_YEARS = 4;
    private static final int MOST_PAST_YEARS = 3;
    private static final int ROWS = 4;
    private static final int MOST_NUMBERS = 40;
    private static final int IMAGES = 2;
    private static final int LISTED = 10;

    private final Reader reader = new Reader();
    private int tellings;
    private final World now = new World();
    private final World trial = new World();
    private final World[] images = newWorlds(IMAGES);
    private final boolean[] imaged = new boolean[IMAGES];
    private final Numbers[] rows = new Numbers[ROWS];
    private final Mending mending = new Mending();
    private final DrySearch drySearch = new DrySearch();
    private final PastSearch pastSearch = new PastSearch();
    private final int[] mousePaths = new int[MOST_ROOFS * MOST_DEEP];

    public ThatchNext() {
        for (int i = 0; i < ROWS; i++) {
            rows[i] = new Numbers();
        }
    }

    // ---- the row

    public int feed(int a, int b, int c, int d, int e) {
        if (reader.taped + FED_BYTES > TAPE_SIZE) {
            return NOT_NOW;
        }
        reader.takeInt(a);
        reader.takeInt(b);
        reader.takeInt(c);
        reader.takeInt(d);
        reader.takeInt(e);
        return reader.taped;
    }

    public int row(int n) {
        if (n < 0 || n > reader.taped) {
            return BAD_NUMBER;
        }
        reader.read(n);
        if (reader.fault != 0) {
            return TEXT_FAULT - reader.fault;
        }
        tellings++;
        now.copyFrom(reader.world);
        now.told = tellings;
        return now.lines;
    }

    public int fault(int what) {
        if (what == 0) {
            return reader.fault;
        }
        return what == 1 ? reader.faultPlace : NONE;
    }

    public int roof(int r, int what) {
        if (!now.isRoof(r)) {
            return NO_SUCH;
        }
        switch (what) {
            case 0: return now.depths[r];
            case 1: return bit(now.slates, r);
            case 2: return now.giverOf(r);
            case 3: return now.isLeaking(r) ? 1 : 0;
            case 4: return now.soundIn(r);
            case 5: return now.miceOn(r);
            case 6: return bit(now.cats, r);
            case 7: return now.laid[r];
            default: return NO_SUCH;
        }
    }

    public int layer(int r, int d, int what) {
        if (!now.isRoof(r) || what < 0 || what > 6) {
            return NO_SUCH;
        }
        if (d < 0 || d >= now.depths[r]) {
            return NOT_NOW;
        }
        int layer = now.layerAt(r, d);
        switch (what) {
            case 0: return Layer.ageOf(layer);
            case 1: return Layer.sortOf(layer);
            case 2: return Layer.isWet(layer) ? 1 : 0;
            case 3: return Layer.miceOf(layer);
            case 4: return Layer.hasSpark(layer) ? 1 : 0;
            case 5: return Layer.fromOf(layer);
            default: return now.isSound(layer) ? 1 : 0;
        }
    }

    // ---- years

    public int year(int skips) {
        if (!now.maySkip(skips)) {
            return BAD_NUMBER;
        }
        if (now.year >= LAST_YEAR) {
            return NOT_NOW;
        }
        now.passYear(skips);
        return now.leaking();
    }

    public int rain() {
        return now.rainDown();
    }

    public int judge(int row, int what) {
        if (!isRow(row) || what < 0 || what > 3) {
            return NO_SUCH;
        }
        Numbers sets = rows[row];
        if (!sets.isThere) {
            return MISSING;
        }
        trial.copyFrom(now);
        int done = trial.passYearsOf(sets);
        switch (what) {
            case 0: return done < sets.size ? done : NONE;
            case 1: return done < sets.size ? trial.yearFault(sets.values[done]) : 0;
            case 2: return trial.leaking();
            default: return trial.laidInAll() - now.laidInAll();
        }
    }

    public int perform(int row) {
        if (!isRow(row)) {
            return NO_SUCH;
        }
        return rows[row].isThere ? now.passYearsOf(rows[row]) : MISSING;
    }

    public int drawn(int seed, int years) {
        if (years < 1 || years > 30) {
            return BAD_NUMBER;
        }
        if (now.year + years > LAST_YEAR) {
            return NOT_NOW;
        }
        int x = seed;
        int wet = 0;
        for (int i = 0; i < years; i++) {
            int skips = 0;
            for (int r = 0; r < now.roofs; r++) {
                if (bit(now.slates, r) == 0) {
                    x = nextDraw(x);
                    skips |= (x >>> 16) % 4 == 0 ? 1 << r : 0;
                }
            }
            now.passYear(skips);
            x = nextDraw(x);
            wet += (x >>> 16) % 2 == 1 ? now.rainDown() : 0;
        }
        return wet;
    }

    public int leaks() {
        return now.leaking();
    }

    public int leaksIn(int r) {
        if (!now.isRoof(r)) {
            return NO_SUCH;
        }
        // Behind a year in which none skips all thatch has a new sound layer on top: now, or never.
        return now.isLeaking(r) ? 0 : NONE;
    }

    public int spread(int r) {
        return now.isRoof(r) ? now.roofsWithLayersFrom(r) : NO_SUCH;
    }

    public int mend(int r, int sort) {
        int refusal = sort < 0 || sort > 1 ? NO_SUCH : thatchRefusal(r);
        if (refusal != 0) {
            return refusal;
        }
        int old = now.depths[r] > 0 ? Layer.ageOf(now.layerAt(r, 0)) : NONE;
        now.depths[r] = Math.max(1, now.depths[r]);
        now.layNew(r, sort);
        return old;
    }

    public int slate(int r) {
        int refusal = thatchRefusal(r);
        if (refusal != 0) {
            return refusal;
        }
        int gone = now.depths[r];
        now.slates |= 1 << r;
        now.depths[r] = 0;
        return gone;
    }

    public int burn(int r) {
        int refusal = thatchRefusal(r);
        if (refusal != 0) {
            return refusal;
        }
        int gone = now.sparksOn(r);
        now.depths[r] = 0;
        return gone;
    }

    // ---- who skips

    public int harm(int set, int n) {
        if (!now.maySkip(set) || !isHarmSpan(n)) {
            return BAD_NUMBER;
        }
        return Integer.bitCount(harmedBy(set));
    }

    public int may(int n) {
        return isHarmSpan(n) ? now.drySkippers(trial) : BAD_NUMBER;
    }

    public int laziest(int n) {
        // No roof leaks because another one skips too: all who may, may together.
        return isHarmSpan(n) ? now.drySkippers(trial) : BAD_NUMBER;
    }

    public int harms(int set, int r, int n) {
        if (!now.isRoof(r)) {
            return NO_SUCH;
        }
        if (!now.maySkip(set) || !isHarmSpan(n)) {
            return BAD_NUMBER;
        }
        return bit(harmedBy(set), r);
    }

    public int dry(int n, int what) {
        if (what != 0 && (what < LISTED || what >= LISTED + MOST_DRY_YEARS)) {
            return NO_SUCH;
        }
        if (n < 1 || n > MOST_DRY_YEARS) {
            return BAD_NUMBER;
        }
        if (now.roofs > SEARCHED_ROOFS) {
            return TOO_MANY;
        }
        drySearch.find(now, n);
        if (what == 0) {
            return drySearch.fewest;
        }
        int k = what - LISTED;
        return k < n ? drySearch.best[k] : NONE;
    }

    // ---- mice

    public int cat(int r) {
        int refusal = thatchRefusal(r);
        if (refusal != 0) {
            return refusal;
        }
        now.cats ^= 1 << r;
        return bit(now.cats, r);
    }

    public int mice(int r, int n) {
        if (!now.isRoof(r)) {
            return NO_SUCH;
        }
        if (n < 1 || n > Layer.MOST) {
            return BAD_NUMBER;
        }
        if (now.depths[r] == 0) {
            return NOT_NOW;
        }
        int top = now.layerAt(r, 0);
        int there = Math.min(Layer.MOST, Layer.miceOf(top) + n);
        now.setLayer(r, 0, Layer.withMice(top, there));
        return there;
    }

    public int miceIn(int n) {
        if (n < 0 || n > 30) {
            return BAD_NUMBER;
        }
        trial.copyFrom(now);
        for (int i = 0; i < n; i++) {
            trial.passYear(0);
        }
        return trial.miceInAll();
    }

    public int cats(int n) {
        if (n < 1 || n > 8) {
            return BAD_NUMBER;
        }
        int paths = findMousePaths(n);
        int best = NONE;
        for (int set = 0; set <= now.allRoofs(); set++) {
            boolean isFewer = best == NONE || Integer.bitCount(set) < Integer.bitCount(best);
            if (isFewer && (set & now.slates) == 0 && meetsAllPaths(set, paths)) {
                best = set;
            }
        }
        return best;
    }

    // ---- sparks

    public int spark(int r) {
        if (!now.isRoof(r)) {
            return NO_SUCH;
        }
        if (now.depths[r] == 0 || Layer.hasSpark(now.layerAt(r, 0))) {
            return NOT_NOW;
        }
        now.setLayer(r, 0, Layer.withSpark(now.layerAt(r, 0)));
        return now.sparksInAll();
    }

    public int sparkIn(int k, int n) {
        int at = now.placeOfSpark(k);
        if (at == NONE) {
            return NO_SUCH;
        }
        if (n < 0 || n > 30) {
            return BAD_NUMBER;
        }
        for (int i = 0; i < n && at != NONE; i++) {
            at = now.placeNextYear(at);
        }
        return at;
    }

    public long odds(int r, int n) {
        if (!now.isRoof(r)) {
            return NO_SUCH;
        }
        int refusal = oddsRefusal(n);
        return refusal != 0 ? refusal : casesOfFire(r, n);
    }

    public long outOf(int n) {
        int refusal = oddsRefusal(n);
        return refusal != 0 ? refusal : power(now.odds, n * now.sparksInAll());
    }

    public int open(int n) {
        int refusal = oddsRefusal(n);
        if (refusal != 0) {
            return refusal;
        }
        int best = NONE;
        long most = 0;
        for (int r = 0; r < now.roofs; r++) {
            long cases = casesOfFire(r, n);
            if (cases > most) {
                most = cases;
                best = r;
            }
        }
        return best;
    }

    // ---- weeks of mending

    public int order(int row, int what) {
        if (!isRow(row) || (what != 0 && (what < LISTED || what >= LISTED + MOST_ROOFS))) {
            return NO_SUCH;
        }
        Numbers weeks = rows[row];
        if (!weeks.isThere) {
            return MISSING;
        }
        if (isTooMuchMending(weeks)) {
            return TOO_MANY;
        }
        mending.findBest(now, weeks);
        if (what == 0) {
            return mending.wettedBy(now, weeks);
        }
        int k = what - LISTED;
        return k < mending.size ? mending.order[k] : NONE;
    }

    public int wetted(int row, int order) {
        if (!isRow(row) || !isRow(order)) {
            return NO_SUCH;
        }
        Numbers weeks = rows[row];
        if (!weeks.isThere || !rows[order].isThere) {
            return MISSING;
        }
        if (isTooMuchMending(weeks)) {
            return TOO_MANY;
        }
        return mending.takeOrder(now, rows[order]) ? mending.wettedBy(now, weeks) : BAD_NUMBER;
    }

    // ---- what was

    public int past(int m) {
        if (m < 1 || m > MOST_PAST_YEARS) {
            return BAD_NUMBER;
        }
        int refusal = pastRefusal();
        if (refusal != 0) {
            return refusal;
        }
        pastSearch.find(images[0], now, m);
        return pastSearch.found;
    }

    public int sure(int m, int k) {
        if (m < 1 || m > MOST_PAST_YEARS || k < 0 || k >= m) {
            return BAD_NUMBER;
        }
        int refusal = pastRefusal();
        if (refusal != 0) {
            return refusal;
        }
        pastSearch.find(images[0], now, m);
        return pastSearch.found == 0 ? 0 : pastSearch.always[k];
    }

    public int causes(int set) {
        if ((set & ~now.allRoofs()) != 0) {
            return BAD_NUMBER;
        }
        int causes = now.allRoofs();
        for (int r = 0; r < now.roofs; r++) {
            if (bit(set, r) == 1) {
                causes &= now.sourcesOfUnsound(r);
            }
        }
        return causes;
    }

    public int look() {
        int might = 0;
        for (int r = 0; r < now.roofs; r++) {
            might |= now.sourcesOfUnsound(r);
        }
        int suspects = Integer.bitCount(might);
        if (suspects < 2) {
            return NONE;
        }
        int best = NONE;
        int fewest = suspects + 1;
        for (int r = 0; r < now.roofs; r++) {
            int seen = Integer.bitCount(now.sourcesOfUnsound(r));
            int left = Math.max(seen, suspects - seen);
            if (left < fewest) {
                fewest = left;
                best = r;
            }
        }
        return best;
    }

    // ---- rows of numbers, images

    public int numbers(int row, int sort, int n) {
        if (!isRow(row) || sort < 0 || sort > 3) {
            return NO_SUCH;
        }
        if (n < 0 || n > MOST_NUMBERS) {
            return BAD_NUMBER;
        }
        rows[row].begin(sort, n);
        return 0;
    }

    public long write(int row, int i, long v) {
        if (!isRow(row)) {
            return NO_SUCH;
        }
        if (!rows[row].isThere) {
            return MISSING;
        }
        if (i < 0 || i >= rows[row].size) {
            return NO_PLACE;
        }
        return rows[row].put(i, v);
    }

    public int copy(int r, int row) {
        if (!now.isRoof(r) || !isRow(row)) {
            return NO_SUCH;
        }
        if (!rows[row].isThere) {
            return MISSING;
        }
        int copied = Math.min(now.depths[r], rows[row].size);
        for (int d = 0; d < copied; d++) {
            rows[row].put(d, Layer.ageOf(now.layerAt(r, d)));
        }
        return copied;
    }

    public int image(int i) {
        if (i < 0 || i >= IMAGES) {
            return NO_SUCH;
        }
        images[i].copyFrom(now);
        imaged[i] = true;
        return 0;
    }

    public int restore(int i) {
        if (i < 0 || i >= IMAGES) {
            return NO_SUCH;
        }
        if (!imaged[i]) {
            return NOT_NOW;
        }
        now.copyFrom(images[i]);
        return 0;
    }

    public int count(int what) {
        switch (what) {
            case 0: return now.roofs;
            case 1: return now.year;
            case 2: return now.deep;
            case 3: return now.reedYears;
            case 4: return now.strawYears;
            case 5: return now.odds;
            case 6: return now.layersInAll();
            case 7: return now.sparksInAll();
            case 8: return now.miceInAll();
            case 9: return now.laidInAll();
            case 10: return now.isRing ? 1 : 0;
            case 11: return reader.taped;
            case 12: return now.lines;
            case 13: return now.wetInAll();
            default: return NONE;
        }
    }

    // ---- what the calls share

    private static World[] newWorlds(int n) {
        World[] worlds = new World[n];
        for (int i = 0; i < n; i++) {
            worlds[i] = new World();
        }
        return worlds;
    }

    private static int bit(int set, int r) {
        return (set >>> r) & 1;
    }

    private static int nextDraw(int x) {
        return 1103515245 * x + 12345;
    }

    private static long power(int base, int exponent) {
        long product = 1;
        for (int i = 0; i < exponent; i++) {
            product *= base;
        }
        return product;
    }

    private static boolean isRow(int row) {
        return row >= 0 && row < ROWS;
    }

    private int thatchRefusal(int r) {
        if (!now.isRoof(r)) {
            return NO_SUCH;
        }
        return bit(now.slates, r) == 1 ? NOT_NOW : 0;
    }

    private static boolean isHarmSpan(int n) {
        return n >= 1 && n <= 12;
    }

    /** Where a set does harm: behind the first year, in which it skips, none skips and so none leaks, for any n. */
    private int harmedBy(int set) {
        return set & ~now.drySkippers(trial);
    }

    /** Keeps, for each layer with mice that is still there n years on, the roofs it comes to. */
    private int findMousePaths(int n) {
        int paths = 0;
        for (int r = 0; r < now.roofs; r++) {
            for (int d = 0; d < now.depths[r]; d++) {
                int visited = Layer.miceOf(now.layerAt(r, d)) > 0 ? now.roofsVisited(r, d, n) : 0;
                if (visited != 0 && paths < mousePaths.length) {
                    mousePaths[paths] = visited;
                    paths++;
                }
            }
        }
        return paths;
    }

    private boolean meetsAllPaths(int set, int paths) {
        for (int i = 0; i < paths; i++) {
            if ((mousePaths[i] & set) == 0) {
                return false;
            }
        }
        return true;
    }

    private int oddsRefusal(int n) {
        if (n < 1 || n > 6) {
            return BAD_NUMBER;
        }
        return now.sparksInAll() > MOST_SPARKS ? TOO_MANY : 0;
    }

    /** Sparks burn independently: all cases, less those in which each spark spares the roof. */
    private long casesOfFire(int roof, int n) {
        long all = power(now.odds, n);
        long cases = 1;
        long spared = 1;
        for (int k = 0; k < now.sparksInAll(); k++) {
            cases *= all;
            spared *= all - now.casesOfBurning(roof, now.placeOfSpark(k), n);
        }
        return cases - spared;
    }

    private boolean isTooMuchMending(Numbers weeks) {
        return weeks.size > MOST_WEEKS || Integer.bitCount(now.thatched()) > MENDED_ROOFS;
    }

    private int pastRefusal() {
        if (!imaged[0] || images[0].told != now.told) {
            return NOT_NOW;
        }
        return now.roofs > SEARCHED_ROOFS ? TOO_MANY : 0;
    }

    /** A layer is one int, so that a year moves and ages it by one assignment. */
    private static final class Layer {
        static final int MOST = 99;
        static final int REED = 0;
        static final int STRAW = 1;
        private static final int SEVEN_BITS = 127;
        private static final int SORT_AT = 7;
        private static final int WET_AT = 8;
        private static final int SPARK_AT = 9;
        private static final int MICE_AT = 10;
        private static final int FROM_AT = 17;

        static int made(int sort, int age, int from) {
            return age | sort << SORT_AT | (from + 1) << FROM_AT;
        }

        static int ageOf(int layer) {
            return layer & SEVEN_BITS;
        }

        static int sortOf(int layer) {
            return layer >>> SORT_AT & 1;
        }

        static boolean isWet(int layer) {
            return (layer >>> WET_AT & 1) == 1;
        }

        static boolean hasSpark(int layer) {
            return (layer >>> SPARK_AT & 1) == 1;
        }

        static int miceOf(int layer) {
            return layer >>> MICE_AT & SEVEN_BITS;
        }

        static int fromOf(int layer) {
            return (layer >>> FROM_AT) - 1;
        }

        static int madeWet(int layer) {
            return layer | 1 << WET_AT;
        }

        static int withSpark(int layer) {
            return layer | 1 << SPARK_AT;
        }

        static int withMice(int layer, int mice) {
            return (layer & ~(SEVEN_BITS << MICE_AT)) | mice << MICE_AT;
        }

        static int yearOlder(int layer, boolean hasCat) {
            int age = Math.min(MOST, ageOf(layer) + (isWet(layer) ? 2 : 1));
            int mice = hasCat ? 0 : Math.min(MOST, 2 * miceOf(layer));
            return withMice((layer & ~SEVEN_BITS) | age, mice);
        }

        static boolean isLike(int layer, int other) {
            return ageOf(layer) == ageOf(other) && sortOf(layer) == sortOf(other);
        }
    }

    /** The row as it stands: all that an image holds. */
    private static final class World {
        int roofs;
        int year;
        int deep = 3;
        int reedYears = 8;
        int strawYears = 4;
        int odds = 4;
        boolean isRing;
        int slates;
        int cats;
        int lines;
        int told;
        final int[] depths = new int[MOST_ROOFS];
        final int[] laid = new int[MOST_ROOFS];
        private final int[] layers = new int[MOST_ROOFS * MOST_DEEP];
        private final int[] depthsBefore = new int[MOST_ROOFS];
        private final int[] layersBefore = new int[MOST_ROOFS * MOST_DEEP];

        void clear() {
            roofs = 0;
            year = 0;
            deep = 3;
            reedYears = 8;
            strawYears = 4;
            odds = 4;
            isRing = false;
            slates = 0;
            cats = 0;
            lines = 0;
            told = 0;
            for (int r = 0; r < MOST_ROOFS; r++) {
                depths[r] = 0;
                laid[r] = 0;
            }
        }

        void copyFrom(World other) {
            roofs = other.roofs;
            year = other.year;
            deep = other.deep;
            reedYears = other.reedYears;
            strawYears = other.strawYears;
            odds = other.odds;
            isRing = other.isRing;
            slates = other.slates;
            cats = other.cats;
            lines = other.lines;
            told = other.told;
            System.arraycopy(other.depths, 0, depths, 0, roofs);
            System.arraycopy(other.laid, 0, laid, 0, roofs);
            System.arraycopy(other.layers, 0, layers, 0, roofs * MOST_DEEP);
        }

        boolean isRoof(int r) {
            return r >= 0 && r < roofs;
        }

        int allRoofs() {
            return (1 << roofs) - 1;
        }

        int thatched() {
            return allRoofs() & ~slates;
        }

        int giverOf(int r) {
            if (r > 0) {
                return r - 1;
            }
            return isRing && roofs >= 2 ? roofs - 1 : NONE;
        }

        private int takerOf(int r) {
            if (r + 1 < roofs) {
                return r + 1;
            }
            return isRing && roofs >= 2 ? 0 : NONE;
        }

        int layerAt(int r, int d) {
            return layers[r * MOST_DEEP + d];
        }

        void setLayer(int r, int d, int layer) {
            layers[r * MOST_DEEP + d] = layer;
        }

        /** Puts it in the top's place alone: how deep the roof is then is for the caller to tell. */
        void layNew(int r, int sort) {
            setLayer(r, 0, Layer.made(sort, 0, r));
            laid[r]++;
        }

        boolean isSound(int layer) {
            int years = Layer.sortOf(layer) == Layer.STRAW ? strawYears : reedYears;
            return Layer.ageOf(layer) <= years;
        }

        int soundIn(int r) {
            int sound = 0;
            for (int d = 0; d < depths[r]; d++) {
                sound += isSound(layerAt(r, d)) ? 1 : 0;
            }
            return sound;
        }

        boolean isLeaking(int r) {
            return bit(slates, r) == 0 && soundIn(r) == 0;
        }

        int leaking() {
            int set = 0;
            for (int r = 0; r < roofs; r++) {
                boolean leaks = bit(slates, r) == 0 && soundIn(r) == 0;
                set |= leaks ? 1 << r : 0;
            }
            return set;
        }

        int miceOn(int r) {
            int mice = 0;
            for (int d = 0; d < depths[r]; d++) {
                mice += Layer.miceOf(layerAt(r, d));
            }
            return mice;
        }

        int miceInAll() {
            int mice = 0;
            for (int r = 0; r < roofs; r++) {
                mice += miceOn(r);
            }
            return mice;
        }

        int sparksOn(int r) {
            int sparks = 0;
            for (int d = 0; d < depths[r]; d++) {
                sparks += Layer.hasSpark(layerAt(r, d)) ? 1 : 0;
            }
            return sparks;
        }

        int sparksInAll() {
            int sparks = 0;
            for (int r = 0; r < roofs; r++) {
                sparks += sparksOn(r);
            }
            return sparks;
        }

        int layersInAll() {
            int all = 0;
            for (int r = 0; r < roofs; r++) {
                all += depths[r];
            }
            return all;
        }

        int laidInAll() {
            int all = 0;
            for (int r = 0; r < roofs; r++) {
                all += laid[r];
            }
            return all;
        }

        int wetInAll() {
            int wet = 0;
            for (int r = 0; r < roofs; r++) {
                for (int d = 0; d < depths[r]; d++) {
                    wet += Layer.isWet(layerAt(r, d)) ? 1 : 0;
                }
            }
            return wet;
        }

        /** Why a set can't skip in the year that comes: 0 for one that can. */
        int yearFault(long set) {
            if ((set & ~(long) allRoofs()) != 0) {
                return 1;
            }
            if ((set & slates) != 0) {
                return 2;
            }
            return year >= LAST_YEAR ? 3 : 0;
        }

        boolean maySkip(int set) {
            int why = yearFault(set);
            return why != 1 && why != 2;
        }

        /**
         * The roofs that could skip in the year that comes and not leak behind it. Who skips keeps its own layers,
         * whoever else skips; who doesn't has a new layer on top, which is sound at its age of 0.
         */
        int drySkippers(World scratch) {
            scratch.copyFrom(this);
            scratch.passYear(thatched());
            return thatched() & ~scratch.leaking();
        }

        /** A year, also beyond the last one: who asks what would be leaves the calendar aside. */
        void passYear(int skips) {
            System.arraycopy(layers, 0, layersBefore, 0, roofs * MOST_DEEP);
            System.arraycopy(depths, 0, depthsBefore, 0, roofs);
            for (int r = 0; r < roofs; r++) {
                if (bit(skips, r) == 1) {
                    takeOld(r, r, 0);
                } else if (bit(slates, r) == 0) {
                    layNew(r, Layer.REED);
                    takeOld(r, sourceFor(r, skips), 1);
                }
            }
            year++;
        }

        /** Whose old layers come below the new one of a roof that doesn't skip. */
        private int sourceFor(int r, int skips) {
            int giver = giverOf(r);
            if (giver == NONE || bit(slates, giver) == 1) {
                return NONE;
            }
            return bit(skips, giver) == 1 ? r : giver;
        }

        private void takeOld(int r, int source, int top) {
            int taken = source == NONE ? 0 : Math.min(depthsBefore[source], deep - top);
            boolean hasCat = bit(cats, r) == 1;
            for (int d = 0; d < taken; d++) {
                int old = layersBefore[source * MOST_DEEP + d];
                setLayer(r, top + d, Layer.yearOlder(old, hasCat));
            }
            depths[r] = top + taken;
        }

        int passYearsOf(Numbers sets) {
            int done = 0;
            while (done < sets.size && yearFault(sets.values[done]) == 0) {
                passYear((int) sets.values[done]);
                done++;
            }
            return done;
        }

        int rainDown() {
            int became = 0;
            for (int r = 0; r < roofs; r++) {
                for (int d = 0; d < depths[r] && !isSound(layerAt(r, d)); d++) {
                    became += Layer.isWet(layerAt(r, d)) ? 0 : 1;
                    setLayer(r, d, Layer.madeWet(layerAt(r, d)));
                }
            }
            return became;
        }

        int roofsWithLayersFrom(int source) {
            int set = 0;
            for (int r = 0; r < roofs; r++) {
                for (int d = 0; d < depths[r]; d++) {
                    set |= Layer.fromOf(layerAt(r, d)) == source ? 1 << r : 0;
                }
            }
            return set;
        }

        int sourcesOfUnsound(int r) {
            int set = 0;
            for (int d = 0; d < depths[r]; d++) {
                int from = Layer.fromOf(layerAt(r, d));
                if (from != NONE && !isSound(layerAt(r, d))) {
                    set |= 1 << from;
                }
            }
            return set;
        }

        /** Where the k-th layer with a spark lies: 10 times the roof, and how deep. */
        int placeOfSpark(int k) {
            int before = 0;
            for (int r = 0; r < roofs; r++) {
                for (int d = 0; d < depths[r]; d++) {
                    if (Layer.hasSpark(layerAt(r, d))) {
                        if (before == k) {
                            return 10 * r + d;
                        }
                        before++;
                    }
                }
            }
            return NONE;
        }

        /** Where a layer lies a year on, if none skips: one deeper next door, or nowhere. */
        int placeNextYear(int at) {
            int taker = takerOf(at / 10);
            int deeper = at % 10 + 1;
            if (taker == NONE || bit(slates, taker) == 1 || deeper >= deep) {
                return NONE;
            }
            return 10 * taker + deeper;
        }

        /** The roofs to which a layer comes in n years; none if it is gone by then. */
        int roofsVisited(int r, int d, int n) {
            int at = 10 * r + d;
            int visited = 0;
            for (int i = 0; i < n; i++) {
                at = placeNextYear(at);
                if (at == NONE) {
                    return 0;
                }
                visited |= 1 << (at / 10);
            }
            return visited;
        }

        /** Of odds to the n cases of one spark, those in which it burns a roof. */
        long casesOfBurning(int roof, int start, int n) {
            long cases = 0;
            int at = start;
            for (int i = 1; i <= n && at != NONE; i++) {
                at = placeNextYear(at);
                if (at != NONE && at / 10 == roof) {
                    cases += power(odds - 1, i - 1) * power(odds, n - i);
                }
            }
            return cases;
        }

        /** In a row of years just those that laid in its last one: all that was there before is older. */
        int roofsWithNewTop() {
            int set = 0;
            for (int r = 0; r < roofs; r++) {
                boolean isNew = depths[r] > 0 && Layer.ageOf(layerAt(r, 0)) == 0;
                set |= isNew ? 1 << r : 0;
            }
            return set;
        }

        boolean hasLayersLike(World other) {
            if (roofs != other.roofs) {
                return false;
            }
            for (int r = 0; r < roofs; r++) {
                if (depths[r] != other.depths[r]) {
                    return false;
                }
                for (int d = 0; d < depths[r]; d++) {
                    if (!Layer.isLike(layerAt(r, d), other.layerAt(r, d))) {
                        return false;
                    }
                }
            }
            return true;
        }
    }

    /** Holds the tape, and reads a text from it into a world of its own; the first fault ends the reading. */
    private static final class Reader {
        private static final int FAULTY = 0;
        private static final int END = 1;
        private static final int SIGN = 2;
        private static final int NUMBER = 3;
        private static final int WORD = 4;

        final World world = new World();
        int fault;
        int faultPlace = NONE;
        int taped;
        private final byte[] text = new byte[TAPE_SIZE];
        private int length;
        private int start;
        private int next;
        private int token;
        private int value;

        void takeInt(int fed) {
            for (int shift = 24; shift >= 0 && taped < TAPE_SIZE; shift -= 8) {
                text[taped] = (byte) (fed >>> shift);
                taped++;
            }
        }

        void read(int n) {
            length = Math.min(n, TAPE_SIZE);
            taped = 0;
            world.clear();
            fault = 0;
            faultPlace = NONE;
            next = 0;
            advance();
            for (int i = 0; i <= length && fault == 0 && token != END; i++) {
                readLine();
            }
        }

        /** A faulty token fits nowhere, so that nothing is read behind it. */
        private void fail(int kind) {
            if (fault == 0) {
                fault = kind;
                faultPlace = start;
            }
            token = FAULTY;
        }

        private void readLine() {
            if (isWord("roof")) {
                readRoof();
            } else if (isWord("ring")) {
                world.isRing = true;
                advance();
            } else if (isWord("deep") && world.roofs == 0) {
                advance();
                world.deep = readNumber(1, MOST_DEEP);
            } else if (isWord("reed")) {
                advance();
                world.reedYears = readNumber(1, 30);
                world.strawYears = readNumber(1, 30);
            } else if (isWord("odds")) {
                advance();
                world.odds = readNumber(2, 6);
            } else {
                fail(2);
            }
            endLine();
        }

        private void endLine() {
            if (token != SIGN) {
                fail(2);
                return;
            }
            world.lines++;
            advance();
        }

        private void readRoof() {
            if (world.roofs >= MOST_ROOFS) {
                fail(4);
                return;
            }
            int r = world.roofs;
            world.roofs++;
            advance();
            if (isWord("slate")) {
                world.slates |= 1 << r;
                advance();
                return;
            }
            for (int d = 0; d <= MOST_DEEP && (isWord("reed") || isWord("straw")); d++) {
                readLayer(r, d);
            }
        }

        private void readLayer(int r, int d) {
            if (d >= world.deep) {
                fail(4);
                return;
            }
            int sort = isWord("straw") ? Layer.STRAW : Layer.REED;
            advance();
            int layer = Layer.made(sort, readNumber(0, Layer.MOST), NONE);
            if (isWord("wet")) {
                layer = Layer.madeWet(layer);
                advance();
            }
            if (isWord("mice")) {
                advance();
                layer = Layer.withMice(layer, readNumber(1, Layer.MOST));
            }
            if (isWord("spark")) {
                layer = Layer.withSpark(layer);
                advance();
            }
            world.setLayer(r, d, layer);
            world.depths[r] = d + 1;
        }

        private int readNumber(int least, int most) {
            if (token != NUMBER) {
                fail(2);
                return least;
            }
            if (value < least || value > most) {
                fail(3);
                return least;
            }
            int read = value;
            advance();
            return read;
        }

        private boolean isWord(String word) {
            if (token != WORD || next - start != word.length()) {
                return false;
            }
            for (int i = 0; i < word.length(); i++) {
                if (text[start + i] != word.charAt(i)) {
                    return false;
                }
            }
            return true;
        }

        private void advance() {
            while (next < length && (text[next] == 10 || text[next] == 32)) {
                next++;
            }
            start = next;
            if (next >= length) {
                token = END;
            } else if (isLetter(text[next])) {
                token = WORD;
                while (next < length && isLetter(text[next])) {
                    next++;
                }
            } else if (isDigit(text[next])) {
                token = NUMBER;
                value = 0;
                while (next < length && isDigit(text[next])) {
                    // Of too many digits this wraps around, but such a number is never used.
                    value = 10 * value + text[next] - '0';
                    next++;
                }
            } else if (text[next] == ';') {
                token = SIGN;
                next++;
            } else {
                fail(1);
            }
            if (token == NUMBER && next - start > 3) {
                fail(1);
            }
        }

        private static boolean isLetter(byte sign) {
            return sign >= 'a' && sign <= 'z';
        }

        private static boolean isDigit(byte sign) {
            return sign >= '0' && sign <= '9';
        }
    }

    /** A row of numbers; its places are made once and used again. */
    private static final class Numbers {
        boolean isThere;
        int size;
        final long[] values = new long[MOST_NUMBERS];
        private int sort;

        void begin(int newSort, int n) {
            isThere = true;
            sort = newSort;
            size = n;
            for (int i = 0; i < MOST_NUMBERS; i++) {
                values[i] = 0;
            }
        }

        long put(int i, long v) {
            values[i] = sort == 0 ? (byte) v : sort == 1 ? (short) v : sort == 2 ? (int) v : v;
            return values[i];
        }

        int rainsBetween(int from, int end) {
            int rains = 0;
            for (int i = from; i < end && i < size; i++) {
                rains += values[i] != 0 ? 1 : 0;
            }
            return rains;
        }
    }

    /** An order in which the thatched roofs are mended, one a week. */
    private static final class Mending {
        final int[] order = new int[MOST_ROOFS];
        int size;

        /**
         * Bare roofs cost the same in every order, so only leaking ones must not wait through rain.
         * A sound roof may go ahead if the weeks in which all leaking ones could be mended are dry:
         * then each of them comes a week later at no cost.
         */
        void findBest(World world, Numbers weeks) {
            int left = world.thatched();
            int leaking = world.leaking();
            size = 0;
            while (left != 0 && size < MOST_ROOFS) {
                int urgent = left & leaking;
                boolean isRainClose = weeks.rainsBetween(size, size + Integer.bitCount(urgent)) > 0;
                int r = Integer.numberOfTrailingZeros(isRainClose ? urgent : left);
                order[size] = r;
                left &= ~(1 << r);
                size++;
            }
        }

        boolean takeOrder(World world, Numbers told) {
            int left = world.thatched();
            size = 0;
            if (told.size != Integer.bitCount(left)) {
                return false;
            }
            for (int i = 0; i < told.size && i < MOST_ROOFS; i++) {
                long r = told.values[i];
                if (r < 0 || r >= world.roofs || bit(left, (int) r) == 0) {
                    return false;
                }
                order[i] = (int) r;
                left &= ~(1 << (int) r);
                size++;
            }
            return left == 0;
        }

        int wettedBy(World world, Numbers weeks) {
            int wetted = 0;
            for (int week = 0; week < weeks.size; week++) {
                if (weeks.values[week] != 0) {
                    wetted += wetIn(week, world);
                }
            }
            return wetted;
        }

        private int wetIn(int week, World world) {
            int wet = week < size ? 1 : 0;
            for (int i = week + 1; i < size; i++) {
                wet += world.isLeaking(order[i]) ? 1 : 0;
            }
            return wet;
        }
    }

    /**
     * Tries who skips, year by year, for the fewest new layers that keep all dry. Rain is left out: it wets only
     * what isn't sound any more, so that it makes no leak.
     */
    private static final class DrySearch {
        int fewest;
        final int[] best = new int[MOST_DRY_YEARS];
        private final int[] tried = new int[MOST_DRY_YEARS];
        private final World[] worlds = newWorlds(MOST_DRY_YEARS + 1);
        private int years;

        void find(World now, int n) {
            years = Math.min(n, MOST_DRY_YEARS);
            worlds[0].copyFrom(now);
            fewest = laidByNeed() + 1;
            tryYear(0, 0);
        }

        /** What it takes if each lays only when it must: all can be kept dry so, and no more need be tried. */
        private int laidByNeed() {
            int laid = 0;
            for (int k = 0; k < years; k++) {
                int may = worlds[k].drySkippers(worlds[k + 1]);
                laid += Integer.bitCount(worlds[k].thatched() & ~may);
                worlds[k + 1].copyFrom(worlds[k]);
                worlds[k + 1].passYear(may);
            }
            return laid;
        }

        /** Sets rise from 0 on and only fewer layers replace what was found: so the first of like ones stays. */
        private void tryYear(int k, int laidBefore) {
            if (k >= years) {
                fewest = laidBefore;
                System.arraycopy(tried, 0, best, 0, MOST_DRY_YEARS);
                return;
            }
            int may = worlds[k].drySkippers(worlds[k + 1]);
            int least = k == years - 1 ? may : 0;
            for (int set = least; set <= may; set++) {
                int laid = laidBefore + Integer.bitCount(worlds[k].thatched() & ~set);
                if ((set & ~may) == 0 && laid < fewest) {
                    tried[k] = set;
                    worlds[k + 1].copyFrom(worlds[k]);
                    worlds[k + 1].passYear(set);
                    tryYear(k + 1, laid);
                }
            }
        }
    }

    /** Tries which years lead from an image to the layers as they are now. */
    private static final class PastSearch {
        int found;
        final int[] always = new int[MOST_PAST_YEARS];
        private final int[] tried = new int[MOST_PAST_YEARS];
        private final World[] worlds = newWorlds(MOST_PAST_YEARS + 1);
        private int years;

        void find(World image, World now, int m) {
            found = 0;
            years = Math.min(m, MOST_PAST_YEARS);
            for (int k = 0; k < MOST_PAST_YEARS; k++) {
                always[k] = image.allRoofs();
            }
            worlds[0].copyFrom(image);
            tryYear(0, now);
        }

        /** In the last year only one set can lead here: the tops of the roofs tell who laid. */
        private void tryYear(int k, World now) {
            if (k >= years) {
                compare(worlds[k], now);
                return;
            }
            World before = worlds[k];
            boolean isLast = k == years - 1;
            int least = isLast ? before.thatched() & ~now.roofsWithNewTop() : 0;
            int most = isLast ? least : before.allRoofs();
            for (int set = least; set <= most; set++) {
                if ((set & before.slates) == 0) {
                    worlds[k + 1].copyFrom(before);
                    worlds[k + 1].passYear(set);
                    tried[k] = set;
                    tryYear(k + 1, now);
                }
            }
        }

        private void compare(World reached, World now) {
            if (!reached.hasLayersLike(now)) {
                return;
            }
            found++;
            for (int k = 0; k < years; k++) {
                always[k] &= tried[k];
            }
        }
    }
}
