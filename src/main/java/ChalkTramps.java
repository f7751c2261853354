/**
 * Tramps who lie up at lime kilns along a road, and what they know of the hill by it.
 *
 * Every row that a call needs is made with the object and used again: no call makes an object.
 */
public final class ChalkTramps {
    public static final int UNKNOWN = -1, OUTSIDE = -2, STATE = -3, FULL = -4, NONE = -9;

    private static final int PLACES = 10;
    private static final int LAYERS = 6;
    private static final int LAYER_SETS = 64;
    private static final int MOST_KILNS = 4;
    private static final int MOST_IN_KILN = 4;
    private static final int MOST_TRAMPS = 4;
    private static final int MOST_LETTERS = 48;
    private static final int MOST_ACTS = 14;
    private static final int MOST_KNEW = 6;
    private static final int MOST_DOINGS = 4;
    private static final int MOST_YEARS = 30;
    private static final int LATEST_NIGHT = 20;
    private static final int SLOTS = 2;
    private static final int KINDS = 4;
    private static final int PLAIN = 0, QUICK = 1, CHALKY = 2, TELLER = 3;
    private static final int HUMMOCK_WHITE = 9;
    private static final int NO_KILN_COLD = 0;

    private static final long SEED_FACTOR = 6364136223846793005L;
    private static final long SEED_STEP = 1442695040888963407L;

    /** What n doings of three figures each stay below, by n. */
    private static final long[] DOING_ROWS = {1L, 1000L, 1000000L, 1000000000L, 1000000000000L};

    private final Script script = new Script();
    private final Reader reader = new Reader();
    private final Land land = new Land();
    private final Camp camp = new Camp();
    /** Where nights and doings are tried that change nothing. */
    private final Camp trial = new Camp();
    private final ActRow acts = new ActRow();
    private final Slots slots = new Slots();
    private final Search search = new Search();
    private final Orders orders = new Orders();
    private final Stranger stranger = new Stranger();
    private final Game game = new Game();
    private long seedNow = 0L;

    public ChalkTramps() {
    }

    // ---- the hill

    public int write(int letter) {
        if (letter < 0 || letter > 255) {
            return OUTSIDE;
        }
        if (script.length >= MOST_LETTERS) {
            return FULL;
        }
        script.add(letter);
        return script.length;
    }

    public int wipe() {
        int was = script.length;
        script.length = 0;
        return was;
    }

    public int fault() {
        return reader.read(script);
    }

    public int hill() {
        if (reader.read(script) != NONE) {
            return STATE;
        }
        land.copyFrom(reader.land);
        camp.copyFrom(reader.camp);
        acts.clear();
        slots.clear();
        return 10 * land.kilns + camp.tramps;
    }

    public int kiln(int kiln, int what) {
        if (!land.has(kiln)) {
            return UNKNOWN;
        }
        switch (what) {
            case 0:
                return land.places[kiln];
            case 1:
                return land.depths[kiln];
            case 2:
                return land.bitsOf(kiln);
            case 3:
                return land.figuresOf(kiln);
            case 4:
                return camp.trampsAt(land.places[kiln]);
            default:
                return OUTSIDE;
        }
    }

    public int tramp(int tramp, int what) {
        if (!camp.has(tramp)) {
            return UNKNOWN;
        }
        switch (what) {
            case 0:
                return camp.places[tramp];
            case 1:
                return camp.kinds[tramp];
            case 2:
                return camp.knows[tramp];
            case 3:
                return camp.whites[tramp];
            case 4:
                return camp.speedOf(tramp);
            case 5:
                return camp.hasWalked(tramp) ? 1 : 0;
            case 6:
                return camp.isHummock(tramp) ? 1 : 0;
            default:
                return OUTSIDE;
        }
    }

    public int at(int place) {
        if (!isPlace(place)) {
            return UNKNOWN;
        }
        return land.kilnAt(place);
    }

    // ---- acts

    public int night() {
        acts.push(camp);
        camp.passNight(land, NO_KILN_COLD);
        return Integer.bitCount(camp.hummocks());
    }

    public int walk(int tramp, int place) {
        if (!camp.has(tramp) || !isPlace(place)) {
            return UNKNOWN;
        }
        if (!camp.mayGo(tramp, place)) {
            return STATE;
        }
        int far = Math.abs(place - camp.places[tramp]);
        acts.push(camp);
        camp.goTo(tramp, place);
        return far;
    }

    public int tell(int one, int other) {
        if (!camp.has(one) || !camp.has(other)) {
            return UNKNOWN;
        }
        if (one == other) {
            return OUTSIDE;
        }
        if (!camp.mayHear(one, other)) {
            return STATE;
        }
        acts.push(camp);
        camp.hear(one, other);
        return Integer.bitCount(camp.knows[other]);
    }

    public int wash(int tramp) {
        if (!camp.has(tramp)) {
            return UNKNOWN;
        }
        if (!camp.mayBathe(tramp)) {
            return STATE;
        }
        int knewBefore = Integer.bitCount(camp.knows[tramp]);
        acts.push(camp);
        camp.bathe(tramp);
        return knewBefore;
    }

    public int undo() {
        if (acts.size <= 0) {
            return STATE;
        }
        acts.pop(camp);
        return acts.size;
    }

    // ---- nights to come, the land

    public int later(int tramp, int n, int what) {
        if (!camp.has(tramp)) {
            return UNKNOWN;
        }
        if (n < 0 || n > LATEST_NIGHT || !isFirstOrSecond(what)) {
            return OUTSIDE;
        }
        trial.copyFrom(camp);
        for (int night = 0; night < n; night++) {
            trial.passNight(land, NO_KILN_COLD);
        }
        return what == 0 ? trial.knows[tramp] : trial.whites[tramp];
    }

    public int hummock(int tramp) {
        if (!camp.has(tramp)) {
            return UNKNOWN;
        }
        trial.copyFrom(camp);
        for (int night = 0; night <= LATEST_NIGHT; night++) {
            if (trial.isHummock(tramp)) {
                return night;
            }
            trial.passNight(land, NO_KILN_COLD);
        }
        return NONE;
    }

    public int soon(int tramp, int layers, int what) {
        if (!camp.has(tramp)) {
            return UNKNOWN;
        }
        if (layers < 0 || layers >= LAYER_SETS || !isFirstOrSecond(what)) {
            return OUTSIDE;
        }
        trial.copyFrom(camp);
        if (!search.finds(trial, land, tramp, layers)) {
            return NONE;
        }
        return what == 0 ? search.nights : search.way;
    }

    public int beneath(int what) {
        if (!isFirstOrSecond(what)) {
            return OUTSIDE;
        }
        orders.look(land);
        if (what == 0) {
            return orders.howMany();
        }
        return orders.howMany() == 0 ? NONE : orders.least();
    }

    public int judge(int n, long row) {
        if (n < 1 || n > MOST_DOINGS || row < 0L || row >= DOING_ROWS[n]) {
            return OUTSIDE;
        }
        trial.copyFrom(camp);
        for (int doing = 0; doing < n; doing++) {
            int figures = (int) (row / DOING_ROWS[n - 1 - doing] % 1000L);
            if (!canBe(figures / 100, figures / 10 % 10, figures % 10)) {
                return doing;
            }
        }
        return NONE;
    }

    /** Does one told doing in the trial camp, or looks at it; false if it can not be or is not so. */
    private boolean canBe(int doing, int second, int third) {
        switch (doing) {
            case 0:
                if (second != 0 || third != 0) {
                    return false;
                }
                trial.passNight(land, NO_KILN_COLD);
                return true;
            case 1:
                return trial.goesIfItMay(second, third);
            case 2:
                return trial.hearsIfItMay(second, third);
            case 3:
                return second == 0 && trial.bathesIfItMay(third);
            case 4:
                return trial.has(second) && isLayerFigure(third)
                    && (trial.knows[second] & 1 << (third - 1)) != 0;
            case 5:
                return trial.has(second) && trial.whites[second] >= third;
            default:
                return false;
        }
    }

    // ---- what one knew

    public int knew(int layer, int knew) {
        if (!isLayerFigure(layer) || knew < 0 || knew > 1) {
            return OUTSIDE;
        }
        if (stranger.size >= MOST_KNEW) {
            return FULL;
        }
        stranger.add(1 << (layer - 1), knew == 1);
        return stranger.size;
    }

    public int unknew() {
        int was = stranger.size;
        stranger.clear();
        return was;
    }

    public int lay(int what) {
        if (!isFirstOrSecond(what)) {
            return OUTSIDE;
        }
        stranger.look(land);
        return what == 0 ? stranger.found : stranger.first;
    }

    // ---- shares, rests, chances

    public int share(int tramp, boolean upper) {
        if (!camp.has(tramp)) {
            return UNKNOWN;
        }
        // Of those who know a layer each is as likely to come first, and 12 is parted by 1, 2, 3 and 4.
        int twelfths = 0;
        for (int layer = 0; layer < LAYERS; layer++) {
            int knowing = camp.howManyKnow(1 << layer);
            if ((camp.knows[tramp] & 1 << layer) != 0 && knowing > 0) {
                twelfths += 12 / knowing;
            }
        }
        return fractionPart(twelfths, 12, upper);
    }

    public int rests(int one, int other, int what) {
        if (!camp.has(one) || !camp.has(other)) {
            return UNKNOWN;
        }
        if (one == other || !isFirstOrSecond(what)) {
            return OUTSIDE;
        }
        game.play(camp, trial, land, one, other);
        return what == 0 ? game.found : game.first;
    }

    public int cold(int tramp, int m, int x, boolean upper) {
        if (!camp.has(tramp)) {
            return UNKNOWN;
        }
        if (m < 0 || m > LAYERS || x < 0 || x > 10) {
            return OUTSIDE;
        }
        int above = 0;
        int below = 0;
        for (int coldKilns = 0; coldKilns < 1 << land.kilns; coldKilns++) {
            int weight = land.weightOf(coldKilns, x);
            trial.copyFrom(camp);
            trial.passNight(land, coldKilns);
            if (Integer.bitCount(trial.knows[tramp]) >= m) {
                above += weight;
            }
            below += weight;
        }
        return fractionPart(above, below, upper);
    }

    public long seed(long v) {
        long was = seedNow;
        seedNow = v;
        return was;
    }

    public int years(int m) {
        if (m < 1 || m > MOST_YEARS) {
            return OUTSIDE;
        }
        trial.copyFrom(camp);
        int together = 0;
        for (int year = 0; year < m; year++) {
            seedNow = seedNow * SEED_FACTOR + SEED_STEP;
            passYear((int) ((seedNow >>> 33) % 64L));
            together += trial.allThatIsKnown();
        }
        return together;
    }

    /** One drawn doing (0 to 63) in the trial camp, if it can be. */
    private void passYear(int drawn) {
        if (drawn < 40) {
            trial.goesIfItMay(drawn / 10, drawn % 10);
        } else if (drawn < 44) {
            trial.bathesIfItMay(drawn - 40);
        } else if (drawn < 48) {
            trial.hearsIfItMay(drawn - 44, (drawn - 44 + 1) % MOST_TRAMPS);
        } else {
            trial.passNight(land, NO_KILN_COLD);
        }
    }

    // ---- slots

    public int keep(int slot) {
        if (!isSlot(slot)) {
            return UNKNOWN;
        }
        slots.put(slot, camp);
        return camp.nights;
    }

    public int again(int slot) {
        if (!isSlot(slot)) {
            return UNKNOWN;
        }
        if (!slots.holds(slot)) {
            return STATE;
        }
        slots.bringBack(slot, camp);
        acts.clear();
        return camp.nights;
    }

    public int count(int what) {
        switch (what) {
            case 0:
                return script.length;
            case 1:
                return land.kilns;
            case 2:
                return camp.tramps;
            case 3:
                return camp.nights;
            case 4:
                return camp.hummocks();
            case 5:
                return camp.walked;
            case 6:
                return camp.knownByAny();
            case 7:
                return land.bitsOfAll();
            case 8:
                return acts.size;
            case 9:
                return stranger.size;
            default:
                return OUTSIDE;
        }
    }

    // ---- what several of the classes inside need

    private static boolean isPlace(int place) {
        return place >= 0 && place < PLACES;
    }

    private static boolean isSlot(int slot) {
        return slot >= 0 && slot < SLOTS;
    }

    private static boolean isLayerFigure(int figure) {
        return figure >= 1 && figure <= LAYERS;
    }

    private static boolean isFirstOrSecond(int what) {
        return what == 0 || what == 1;
    }

    /** How many layers one of a kind takes in a night at most. */
    private static int appetiteOf(int kind) {
        switch (kind) {
            case QUICK:
                return 2;
            case CHALKY:
                return LAYERS;
            default:
                return 1;
        }
    }

    /** What stands above or below in the fraction's least terms; below is 1 or more. */
    private static int fractionPart(int above, int below, boolean upper) {
        int divisor = Math.max(1, commonDivisor(above, below));
        return upper ? above / divisor : below / divisor;
    }

    private static int commonDivisor(int one, int other) {
        int large = one;
        int small = other;
        // The two shrink to half in two steps at most, so 64 steps are enough for any two ints.
        for (int step = 0; step < 64 && small != 0; step++) {
            int rest = large % small;
            large = small;
            small = rest;
        }
        return large;
    }

    /** THE TEXT. */
    private static final class Script {
        final int[] letters = new int[MOST_LETTERS];
        int length = 0;

        void add(int letter) {
            if (length < MOST_LETTERS) {
                letters[length] = letter;
                length++;
            }
        }
    }

    /** Reads a text letter by letter into a land and a camp of its own, up to the first fault. */
    private static final class Reader {
        private static final int AT_START = 0, AT_PART = 1, AT_KILN_PLACE = 2, AT_FIRST_LAYER = 3;
        private static final int AT_LAYER = 4, AT_TRAMP_PLACE = 5, AT_TRAMP_KIND = 6;

        final Land land = new Land();
        final Camp camp = new Camp();
        private int stage = AT_START;
        private int trampPlace = 0;

        /** The fault, or NONE: then land and camp are as the text tells them. */
        int read(Script script) {
            land.clear();
            camp.clear();
            stage = AT_START;
            for (int i = 0; i < script.length && i < MOST_LETTERS; i++) {
                if (!takes(script.letters[i])) {
                    return i;
                }
            }
            return stage == AT_PART || stage == AT_LAYER ? NONE : script.length;
        }

        private boolean takes(int letter) {
            switch (stage) {
                case AT_START:
                    stage = AT_PART;
                    return letter == 'K';
                case AT_KILN_PLACE:
                    return takesKilnPlace(letter - '0');
                case AT_FIRST_LAYER:
                    return takesLayer(letter - 'a');
                case AT_LAYER:
                    return takesLayer(letter - 'a') || beginsPart(letter);
                case AT_TRAMP_PLACE:
                    trampPlace = letter - '0';
                    stage = AT_TRAMP_KIND;
                    return isPlace(trampPlace);
                case AT_TRAMP_KIND:
                    return takesTrampKind(letter - '0');
                default:
                    return beginsPart(letter);
            }
        }

        private boolean beginsPart(int letter) {
            if (letter == 'G' && land.kilns < MOST_KILNS) {
                stage = AT_KILN_PLACE;
                return true;
            }
            if (letter == 'I' && camp.tramps < MOST_TRAMPS) {
                stage = AT_TRAMP_PLACE;
                return true;
            }
            return false;
        }

        private boolean takesKilnPlace(int place) {
            if (!isPlace(place) || land.kilnAt(place) != NONE) {
                return false;
            }
            land.addKiln(place);
            stage = AT_FIRST_LAYER;
            return true;
        }

        private boolean takesLayer(int layer) {
            if (layer < 0 || layer >= LAYERS) {
                return false;
            }
            stage = AT_LAYER;
            return land.addLayer(layer);
        }

        private boolean takesTrampKind(int kind) {
            if (kind < 0 || kind >= KINDS) {
                return false;
            }
            camp.addTramp(trampPlace, kind);
            stage = AT_PART;
            return true;
        }
    }

    /** The kilns, which stay as told until the hill is made anew. */
    private static final class Land {
        final int[] places = new int[MOST_KILNS];
        final int[] depths = new int[MOST_KILNS];
        private final int[] layers = new int[MOST_KILNS * MOST_IN_KILN];
        int kilns = 0;

        void clear() {
            kilns = 0;
        }

        void copyFrom(Land other) {
            System.arraycopy(other.places, 0, places, 0, MOST_KILNS);
            System.arraycopy(other.depths, 0, depths, 0, MOST_KILNS);
            System.arraycopy(other.layers, 0, layers, 0, MOST_KILNS * MOST_IN_KILN);
            kilns = other.kilns;
        }

        void addKiln(int place) {
            if (kilns < MOST_KILNS) {
                places[kilns] = place;
                depths[kilns] = 0;
                kilns++;
            }
        }

        /** Puts a layer (0 to 5) beneath the last kiln's; false if the kiln has it or is full. */
        boolean addLayer(int layer) {
            int kiln = kilns - 1;
            if (!has(kiln) || depths[kiln] >= MOST_IN_KILN || (bitsOf(kiln) & 1 << layer) != 0) {
                return false;
            }
            layers[kiln * MOST_IN_KILN + depths[kiln]] = layer;
            depths[kiln]++;
            return true;
        }

        boolean has(int kiln) {
            return kiln >= 0 && kiln < kilns;
        }

        int kilnAt(int place) {
            for (int kiln = 0; kiln < kilns; kiln++) {
                if (places[kiln] == place) {
                    return kiln;
                }
            }
            return NONE;
        }

        /** The layer (0 to 5) of a kiln that is there at a depth below depths[kiln]. */
        int layerOf(int kiln, int depth) {
            return layers[kiln * MOST_IN_KILN + depth];
        }

        int bitsOf(int kiln) {
            int bits = 0;
            for (int depth = 0; depth < depths[kiln]; depth++) {
                bits |= 1 << layerOf(kiln, depth);
            }
            return bits;
        }

        int figuresOf(int kiln) {
            int figures = 0;
            for (int depth = 0; depth < depths[kiln]; depth++) {
                figures = 10 * figures + layerOf(kiln, depth) + 1;
            }
            return figures;
        }

        int bitsOfAll() {
            int bits = 0;
            for (int kiln = 0; kiln < kilns; kiln++) {
                bits |= bitsOf(kiln);
            }
            return bits;
        }

        /** In how many of 10 to the power of the kilns' number just these kilns (bits) are cold. */
        int weightOf(int coldKilns, int tenths) {
            int weight = 1;
            for (int kiln = 0; kiln < kilns; kiln++) {
                weight *= (coldKilns & 1 << kiln) != 0 ? tenths : 10 - tenths;
            }
            return weight;
        }
    }

    /** The tramps as they are, and the night. */
    private static final class Camp {
        private static final int BITS_OF_TRAMP = 15;

        final int[] places = new int[MOST_TRAMPS];
        final int[] kinds = new int[MOST_TRAMPS];
        final int[] knows = new int[MOST_TRAMPS];
        final int[] whites = new int[MOST_TRAMPS];
        int walked = 0;
        int tramps = 0;
        int nights = 0;

        void clear() {
            tramps = 0;
            walked = 0;
            nights = 0;
        }

        void copyFrom(Camp other) {
            for (int tramp = 0; tramp < other.tramps; tramp++) {
                places[tramp] = other.places[tramp];
                kinds[tramp] = other.kinds[tramp];
                knows[tramp] = other.knows[tramp];
                whites[tramp] = other.whites[tramp];
            }
            walked = other.walked;
            tramps = other.tramps;
            nights = other.nights;
        }

        void addTramp(int place, int kind) {
            if (tramps < MOST_TRAMPS) {
                places[tramps] = place;
                kinds[tramps] = kind;
                knows[tramps] = 0;
                whites[tramps] = 0;
                tramps++;
            }
        }

        /** All that acts change, but for the night, in one number. */
        long packed() {
            long all = 0L;
            for (int tramp = tramps - 1; tramp >= 0; tramp--) {
                int one = walked >> tramp & 1;
                one = one << 4 | places[tramp];
                one = one << 4 | whites[tramp];
                one = one << 6 | knows[tramp];
                all = all << BITS_OF_TRAMP | one;
            }
            return all;
        }

        /** Takes over what packed() told of these tramps. */
        void unpack(long all) {
            walked = 0;
            for (int tramp = 0; tramp < tramps; tramp++) {
                int one = (int) (all >> BITS_OF_TRAMP * tramp);
                knows[tramp] = one & 63;
                whites[tramp] = one >> 6 & 15;
                places[tramp] = one >> 10 & 15;
                walked |= (one >> 14 & 1) << tramp;
            }
        }

        boolean has(int tramp) {
            return tramp >= 0 && tramp < tramps;
        }

        boolean isHummock(int tramp) {
            return whites[tramp] >= HUMMOCK_WHITE;
        }

        boolean hasWalked(int tramp) {
            return (walked & 1 << tramp) != 0;
        }

        int speedOf(int tramp) {
            return 3 - whites[tramp] / 3;
        }

        int hummocks() {
            int bits = 0;
            for (int tramp = 0; tramp < tramps; tramp++) {
                if (isHummock(tramp)) {
                    bits |= 1 << tramp;
                }
            }
            return bits;
        }

        int trampsAt(int place) {
            int bits = 0;
            for (int tramp = 0; tramp < tramps; tramp++) {
                if (places[tramp] == place) {
                    bits |= 1 << tramp;
                }
            }
            return bits;
        }

        int knownAt(int place) {
            int bits = 0;
            for (int tramp = 0; tramp < tramps; tramp++) {
                if (places[tramp] == place) {
                    bits |= knows[tramp];
                }
            }
            return bits;
        }

        int knownByAny() {
            int bits = 0;
            for (int tramp = 0; tramp < tramps; tramp++) {
                bits |= knows[tramp];
            }
            return bits;
        }

        int howManyKnow(int layerBit) {
            int knowing = 0;
            for (int tramp = 0; tramp < tramps; tramp++) {
                if ((knows[tramp] & layerBit) != 0) {
                    knowing++;
                }
            }
            return knowing;
        }

        /** How many layers the tramps know, each counted for itself. */
        int allThatIsKnown() {
            int all = 0;
            for (int tramp = 0; tramp < tramps; tramp++) {
                all += Integer.bitCount(knows[tramp]);
            }
            return all;
        }

        /** A NIGHT in which some kilns (bits) are cold. */
        void passNight(Land land, int coldKilns) {
            for (int tramp = 0; tramp < tramps; tramp++) {
                int kiln = land.kilnAt(places[tramp]);
                if (land.has(kiln) && (coldKilns & 1 << kiln) == 0 && !isHummock(tramp)) {
                    lieUp(tramp, land, kiln);
                }
            }
            for (int tramp = 0; tramp < tramps; tramp++) {
                if (kinds[tramp] == TELLER && !isHummock(tramp)) {
                    knows[tramp] |= knownAt(places[tramp]);
                }
            }
            walked = 0;
            nights++;
        }

        private void lieUp(int tramp, Land land, int kiln) {
            int left = appetiteOf(kinds[tramp]);
            for (int depth = 0; depth < land.depths[kiln] && left > 0; depth++) {
                int bit = 1 << land.layerOf(kiln, depth);
                if ((knows[tramp] & bit) == 0) {
                    knows[tramp] |= bit;
                    left--;
                }
            }
            int whiter = kinds[tramp] == CHALKY ? 2 : 1;
            whites[tramp] = Math.min(HUMMOCK_WHITE, whites[tramp] + whiter);
        }

        boolean mayGo(int tramp, int place) {
            if (!has(tramp) || !isPlace(place) || isHummock(tramp) || hasWalked(tramp)) {
                return false;
            }
            int far = Math.abs(place - places[tramp]);
            return far > 0 && far <= speedOf(tramp);
        }

        void goTo(int tramp, int place) {
            places[tramp] = place;
            walked |= 1 << tramp;
        }

        boolean goesIfItMay(int tramp, int place) {
            if (!mayGo(tramp, place)) {
                return false;
            }
            goTo(tramp, place);
            return true;
        }

        boolean mayHear(int one, int other) {
            return has(one) && has(other) && one != other
                && places[one] == places[other] && !isHummock(other);
        }

        void hear(int one, int other) {
            knows[other] |= knows[one];
        }

        boolean hearsIfItMay(int one, int other) {
            if (!mayHear(one, other)) {
                return false;
            }
            hear(one, other);
            return true;
        }

        boolean mayBathe(int tramp) {
            return has(tramp) && !isHummock(tramp);
        }

        void bathe(int tramp) {
            knows[tramp] = 0;
            whites[tramp] = 0;
        }

        boolean bathesIfItMay(int tramp) {
            if (!mayBathe(tramp)) {
                return false;
            }
            bathe(tramp);
            return true;
        }
    }

    /** THE ROW of ACTS: for each how the camp was ahead of it. */
    private static final class ActRow {
        private final long[] camps = new long[MOST_ACTS];
        private final int[] nights = new int[MOST_ACTS];
        int size = 0;

        void clear() {
            size = 0;
        }

        void push(Camp camp) {
            if (size >= MOST_ACTS) {
                System.arraycopy(camps, 1, camps, 0, MOST_ACTS - 1);
                System.arraycopy(nights, 1, nights, 0, MOST_ACTS - 1);
                size = MOST_ACTS - 1;
            }
            camps[size] = camp.packed();
            nights[size] = camp.nights;
            size++;
        }

        void pop(Camp camp) {
            if (size > 0) {
                size--;
                camp.unpack(camps[size]);
                camp.nights = nights[size];
            }
        }
    }

    /** What is kept, to go on from. */
    private static final class Slots {
        private final long[] camps = new long[SLOTS];
        private final int[] nights = new int[SLOTS];
        private final boolean[] kept = new boolean[SLOTS];

        void clear() {
            for (int slot = 0; slot < SLOTS; slot++) {
                kept[slot] = false;
            }
        }

        boolean holds(int slot) {
            return isSlot(slot) && kept[slot];
        }

        void put(int slot, Camp camp) {
            if (isSlot(slot)) {
                camps[slot] = camp.packed();
                nights[slot] = camp.nights;
                kept[slot] = true;
            }
        }

        void bringBack(int slot, Camp camp) {
            if (holds(slot)) {
                camp.unpack(camps[slot]);
                camp.nights = nights[slot];
            }
        }
    }

    /**
     * SOON, night by night: the camps that can be after so many nights, in the order of the ways to them.
     * Of like camps only the first is kept, as what follows from it is alike and its way is the least.
     */
    private static final class Search {
        private static final int MOST_NIGHTS = 4;
        /** From one camp at most 7 places are in reach, and the last night's camps need not be kept. */
        private static final int MOST_CAMPS = 7 * 7 * 7;

        private final long[] camps = new long[MOST_CAMPS];
        private final int[] ways = new int[MOST_CAMPS];
        private final long[] nextCamps = new long[MOST_CAMPS];
        private final int[] nextWays = new int[MOST_CAMPS];
        private int size = 0;
        private int nextSize = 0;
        int nights = 0;
        int way = 0;

        /** Whether the layers can be known in time; if so, nights and way are set. The camp is used up. */
        boolean finds(Camp camp, Land land, int tramp, int layers) {
            nights = 0;
            way = 0;
            if ((camp.knows[tramp] & layers) == layers) {
                return true;
            }
            camps[0] = camp.packed();
            ways[0] = 0;
            size = 1;
            for (nights = 1; nights <= MOST_NIGHTS; nights++) {
                nextSize = 0;
                for (int i = 0; i < size; i++) {
                    if (findsFrom(i, camp, land, tramp, layers)) {
                        return true;
                    }
                }
                turnToNext();
            }
            return false;
        }

        private boolean findsFrom(int i, Camp camp, Land land, int tramp, int layers) {
            for (int place = 0; place < PLACES; place++) {
                camp.unpack(camps[i]);
                if (camp.places[tramp] == place || camp.goesIfItMay(tramp, place)) {
                    camp.passNight(land, NO_KILN_COLD);
                    way = 10 * ways[i] + place;
                    if ((camp.knows[tramp] & layers) == layers) {
                        return true;
                    }
                    if (nights < MOST_NIGHTS) {
                        addNext(camp.packed(), way);
                    }
                }
            }
            return false;
        }

        private void addNext(long packedCamp, int wayThere) {
            for (int i = 0; i < nextSize; i++) {
                if (nextCamps[i] == packedCamp) {
                    return;
                }
            }
            if (nextSize < MOST_CAMPS) {
                nextCamps[nextSize] = packedCamp;
                nextWays[nextSize] = wayThere;
                nextSize++;
            }
        }

        private void turnToNext() {
            System.arraycopy(nextCamps, 0, camps, 0, nextSize);
            System.arraycopy(nextWays, 0, ways, 0, nextSize);
            size = nextSize;
        }
    }

    /** BENEATH: orders of the layers that fit all kilns. */
    private static final class Orders {
        /** For each layer the layers (bits) that lie right above it in some kiln. */
        private final int[] above = new int[LAYERS];
        /** In how many orders a set of layers can be the topmost ones. */
        private final int[] ways = new int[LAYER_SETS];
        private int all = 0;

        void look(Land land) {
            all = land.bitsOfAll();
            for (int layer = 0; layer < LAYERS; layer++) {
                above[layer] = 0;
            }
            for (int kiln = 0; kiln < land.kilns; kiln++) {
                for (int depth = 1; depth < land.depths[kiln]; depth++) {
                    above[land.layerOf(kiln, depth)] |= 1 << land.layerOf(kiln, depth - 1);
                }
            }
            ways[0] = 1;
            for (int set = 1; set < LAYER_SETS; set++) {
                ways[set] = (set & all) == set ? waysTo(set) : 0;
            }
        }

        private int waysTo(int set) {
            int sum = 0;
            for (int last = 0; last < LAYERS; last++) {
                int rest = set & ~(1 << last);
                if (rest != set && canFollow(last, rest)) {
                    sum += ways[rest];
                }
            }
            return sum;
        }

        private boolean canFollow(int layer, int topmost) {
            return (above[layer] & topmost) == above[layer];
        }

        int howMany() {
            return ways[all];
        }

        /** The least order, where there is one: always the least layer that may come next. */
        int least() {
            int figures = 0;
            int done = 0;
            for (int turn = 0; turn < LAYERS && done != all; turn++) {
                int next = leastAfter(done);
                figures = 10 * figures + next + 1;
                done |= 1 << next;
            }
            return figures;
        }

        private int leastAfter(int done) {
            for (int layer = 0; layer < LAYERS; layer++) {
                if ((all & ~done & 1 << layer) != 0 && canFollow(layer, done)) {
                    return layer;
                }
            }
            return 0;
        }
    }

    /** KNEW and LAY: an unknown tramp, plain or quick. */
    private static final class Stranger {
        private static final int MOST_NIGHTS = 3;

        private int known = 0;
        private int notKnown = 0;
        int size = 0;
        int found = 0;
        int first = NONE;

        void clear() {
            known = 0;
            notKnown = 0;
            size = 0;
        }

        void add(int layerBit, boolean knewIt) {
            if (knewIt) {
                known |= layerBit;
            } else {
                notKnown |= layerBit;
            }
            size++;
        }

        void look(Land land) {
            found = 0;
            first = NONE;
            for (int kind = PLAIN; kind <= QUICK; kind++) {
                for (int kiln = 0; kiln < land.kilns; kiln++) {
                    for (int nights = 0; nights <= MOST_NIGHTS; nights++) {
                        if (fits(takenIn(land, kiln, nights * appetiteOf(kind)))) {
                            noteFound(100 * kind + 10 * kiln + nights);
                        }
                    }
                }
            }
        }

        private boolean fits(int taken) {
            return (taken & known) == known && (taken & notKnown) == 0;
        }

        private static int takenIn(Land land, int kiln, int most) {
            int bits = 0;
            for (int depth = 0; depth < land.depths[kiln] && depth < most; depth++) {
                bits |= 1 << land.layerOf(kiln, depth);
            }
            return bits;
        }

        private void noteFound(int told) {
            if (found == 0) {
                first = told;
            }
            found++;
        }
    }

    /** RESTS: two tramps who choose a kiln's number each. */
    private static final class Game {
        private static final int NUMBERS = 4;

        private final int[] onesGains = new int[NUMBERS * NUMBERS];
        private final int[] othersGains = new int[NUMBERS * NUMBERS];
        int found = 0;
        int first = NONE;

        void play(Camp camp, Camp trial, Land land, int one, int other) {
            for (int a = 0; a < NUMBERS; a++) {
                for (int b = 0; b < NUMBERS; b++) {
                    trial.copyFrom(camp);
                    goToKiln(trial, land, one, a);
                    goToKiln(trial, land, other, b);
                    trial.passNight(land, NO_KILN_COLD);
                    onesGains[NUMBERS * a + b] = gainOf(trial, one, other);
                    othersGains[NUMBERS * a + b] = gainOf(trial, other, one);
                }
            }
            found = 0;
            first = NONE;
            for (int a = 0; a < NUMBERS; a++) {
                for (int b = 0; b < NUMBERS; b++) {
                    if (isAtRest(a, b)) {
                        first = found == 0 ? 10 * a + b : first;
                        found++;
                    }
                }
            }
        }

        private static void goToKiln(Camp trial, Land land, int tramp, int kiln) {
            if (land.has(kiln)) {
                trial.goesIfItMay(tramp, land.places[kiln]);
            }
        }

        private static int gainOf(Camp trial, int tramp, int beside) {
            int gain = 2 * Integer.bitCount(trial.knows[tramp]);
            return trial.places[tramp] == trial.places[beside] ? gain - 3 : gain;
        }

        private boolean isAtRest(int a, int b) {
            int pair = NUMBERS * a + b;
            for (int another = 0; another < NUMBERS; another++) {
                if (onesGains[NUMBERS * another + b] > onesGains[pair]
                    || othersGains[NUMBERS * a + another] > othersGains[pair]) {
                    return false;
                }
            }
            return true;
        }
    }
}
