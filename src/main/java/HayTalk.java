import java.util.Arrays;

/** A hay meadow that talks: what the mowers say falls with the swathe, lies in ricks and is told to cows. */
public final class HayTalk {
    public static final int BAD = -1, NO = -2, FULL = -3, NONE = -4;

    private static final String FIRST_TEXT = "m314;m2718;m5;m9902;e0120;c0;c1;c2;c3;k2;k0;k5;";
    private static final int ALL_WORDS = 1023;
    private static final int EVEN_WORDS = 341;
    private static final int GREATEST_WORD = 9;
    private static final int PLAIN = 0, DEAF = 1, SLOW = 2, KINDS_OF_COWS = 4;
    private static final int MOST_MOWERS = 5, MOST_COWS = 4, MOST_RICKS = 3, MOST_LAYERS = 8;
    private static final int WETTEST = 99;
    private static final int BURNING = 40;
    private static final int LAST_HOUR = 999;
    private static final int FORESEEN_HOURS = 60;
    private static final int WET_BY_RAIN = 3;

    private final Text text;
    private final Field field;
    private final Field trial;
    private final Pile past;
    private final Pile kept;
    private final Seen seen;
    private Land land;
    private Land draft;

    public HayTalk() {
        text = new Text();
        field = new Field();
        trial = new Field();
        past = new Pile(8);
        kept = new Pile(2);
        seen = new Seen();
        land = new Land();
        draft = new Land();
        land.readText(Text.of(FIRST_TEXT));
    }

    // ---- fields

    public int write(int letter) {
        if (!isWithin(letter, 32, 126)) {
            return BAD;
        }
        if (text.isFull()) {
            return FULL;
        }
        text.add(letter);
        return text.length;
    }

    public int wipe() {
        int length = text.length;
        text.length = 0;
        return length;
    }

    public int fault() {
        return draft.readText(text);
    }

    public int lay() {
        if (draft.readText(text) != NONE || !draft.isWhole()) {
            return NO;
        }
        Land laid = draft;
        draft = land;
        land = laid;
        field.clear();
        past.clear();
        kept.clear();
        seen.size = 0;
        return land.mowers;
    }

    public int mower(int m, int what) {
        if (!isMower(m)) {
            return BAD;
        }
        switch (what) {
            case 0:
                return land.wordOf(m, field.hours);
            case 1:
                return Rows.at(field.lying, m);
            case 2:
                return Rows.at(field.damp, m);
            default:
                return BAD;
        }
    }

    public int cow(int c, int what) {
        if (!isCow(c)) {
            return BAD;
        }
        switch (what) {
            case 0:
                return land.kindOf(c);
            case 1:
                return Rows.at(field.told, c);
            default:
                return BAD;
        }
    }

    public int rick(int k, int what) {
        if (!isRick(k)) {
            return BAD;
        }
        switch (what) {
            case 0:
                return land.thatchOf(k);
            case 1:
                return field.heightOf(k);
            case 2:
                return field.hottestOf(k);
            case 3:
                return Rows.at(field.burnt, k);
            default:
                return BAD;
        }
    }

    public int layer(int k, int i, int what) {
        if (!isRick(k) || i < 0 || i >= field.heightOf(k)) {
            return BAD;
        }
        switch (what) {
            case 0:
                return field.wordsOf(k, i);
            case 1:
                return field.wetnessOf(k, i);
            case 2:
                return field.heatOf(k, i);
            default:
                return BAD;
        }
    }

    // ---- acts

    public int pass(int n) {
        if (!isWithin(n, 1, 24)) {
            return BAD;
        }
        if (field.hours + n > LAST_HOUR) {
            return NO;
        }
        past.push(field);
        field.hoursGoBy(land, n);
        return field.hours;
    }

    public int rake(int a, int b, int k) {
        if (!isMower(a) || !isMower(b) || b < a || !isRick(k)) {
            return BAD;
        }
        if (field.lyingIn(a, b) == 0) {
            return NO;
        }
        if (field.heightOf(k) >= MOST_LAYERS) {
            return FULL;
        }
        past.push(field);
        field.gather(a, b, k);
        return field.heightOf(k);
    }

    public int cut(int k, int c) {
        if (!isRick(k) || !isCow(c)) {
            return BAD;
        }
        if (field.heightOf(k) == 0) {
            return NO;
        }
        past.push(field);
        return field.feed(k, c, land.kindOf(c));
    }

    public int turn(int m) {
        if (!isMower(m)) {
            return BAD;
        }
        int wetness = Rows.at(field.damp, m);
        if (wetness == 0) {
            return NO;
        }
        past.push(field);
        Rows.put(field.damp, m, 0);
        return wetness;
    }

    public int heap(int j, int k) {
        if (!isRick(j) || !isRick(k) || j == k) {
            return BAD;
        }
        if (field.heightOf(j) == 0) {
            return NO;
        }
        if (field.heightOf(j) + field.heightOf(k) > MOST_LAYERS) {
            return FULL;
        }
        past.push(field);
        field.stack(j, k);
        return field.heightOf(k);
    }

    public int undo() {
        if (past.size == 0) {
            return NO;
        }
        past.popInto(field);
        return past.size;
    }

    // ---- what comes, what is best

    public int behind(int n, int m, int what) {
        if (!isWithin(n, 0, 40) || !isMower(m) || !isWithin(what, 0, 1)) {
            return BAD;
        }
        trial.copyFrom(field);
        trial.hoursGoBy(land, n);
        return Rows.at(what == 0 ? trial.lying : trial.damp, m);
    }

    public int burns(int k) {
        if (!isRick(k)) {
            return BAD;
        }
        trial.copyFrom(field);
        int burntBefore = Rows.at(trial.burnt, k);
        for (int hour = 1; hour <= FORESEEN_HOURS; hour++) {
            trial.hourGoesBy(land);
            if (Rows.at(trial.burnt, k) > burntBefore) {
                return hour;
            }
        }
        return NONE;
    }

    public int tell(int c, int set, int k) {
        if (!isCow(c) || !isWithin(set, 1, ALL_WORDS) || k < -1 || k >= land.ricks) {
            return BAD;
        }
        int cuts = fewestCuts(c, set);
        if (cuts == NONE) {
            return NONE;
        }
        int fromFirst = cuts / 100;
        int fromSecond = cuts / 10 % 10;
        int fromThird = cuts % 10;
        switch (k) {
            case 0:
                return fromFirst;
            case 1:
                return fromSecond;
            case 2:
                return fromThird;
            default:
                return fromFirst + fromSecond + fromThird;
        }
    }

    public int rakes(int set) {
        if (!isWithin(set, 1, ALL_WORDS)) {
            return BAD;
        }
        int best = NONE;
        int fewest = NONE;
        for (int a = 0; a < land.mowers; a++) {
            for (int b = a; b < land.mowers; b++) {
                int words = field.lyingIn(a, b);
                int others = Integer.bitCount(words & ~set);
                if ((words & set) == set && (best == NONE || others < fewest)) {
                    fewest = others;
                    best = 10 * a + b;
                }
            }
        }
        return best;
    }

    public int most(int c, int what) {
        if (!isCow(c) || !isWithin(what, 0, 1)) {
            return BAD;
        }
        int best = NONE;
        int greatest = NONE;
        for (int k = 0; k < land.ricks; k++) {
            int fresh = Integer.bitCount(field.freshFor(k, c, land.kindOf(c)));
            if (field.heightOf(k) > 0 && fresh > greatest) {
                greatest = fresh;
                best = k;
            }
        }
        return what == 0 ? best : greatest;
    }

    public int first(int w, int what) {
        if (!isWord(w) || !isWithin(what, 0, 1)) {
            return BAD;
        }
        for (int hour = 1; hour <= FORESEEN_HOURS; hour++) {
            for (int m = 0; m < land.mowers; m++) {
                if (land.wordOf(m, field.hours + hour - 1) == w) {
                    return what == 0 ? hour : m;
                }
            }
        }
        return NONE;
    }

    public int needle(int w, int k, int part) {
        if (!isWord(w) || !isRick(k) || !isWithin(part, 0, 1)) {
            return BAD;
        }
        int all = 0;
        for (int each = 0; each < land.ricks; each++) {
            all += field.placesOf(each, w);
        }
        if (all == 0) {
            return NONE;
        }
        return inLowestTerms(field.placesOf(k, w), all, part);
    }

    // ---- what was seen

    public int see(int v, int h) {
        if (!isWord(v) || !isWithin(h, 0, 99)) {
            return BAD;
        }
        if (seen.isFull()) {
            return FULL;
        }
        seen.add(v, h);
        return seen.size;
    }

    public int forget() {
        int size = seen.size;
        seen.size = 0;
        return size;
    }

    public int which() {
        int fitting = 0;
        for (int m = 0; m < land.mowers; m++) {
            if (seen.isSoOf(land, m)) {
                fitting |= 1 << m;
            }
        }
        return fitting;
    }

    public int kinds(int set, int told) {
        if (!isWithin(set, 0, ALL_WORDS) || !isWithin(told, 0, ALL_WORDS)) {
            return BAD;
        }
        int fitting = 0;
        for (int kind = 0; kind < KINDS_OF_COWS; kind++) {
            if (heardBy(kind, set, 0) == told) {
                fitting |= 1 << kind;
            }
        }
        return fitting;
    }

    // ---- rain, Februaries

    public int rain(int m, int n, int x, int w, int part) {
        if (!isMower(m) || !isWithin(n, 0, 8) || !isWithin(x, 0, 10)
                || !isWithin(w, 0, WETTEST) || !isWithin(part, 0, 1)) {
            return BAD;
        }
        trial.copyFrom(field);
        trial.hoursGoBy(land, n);
        int dampElse = Rows.at(trial.damp, m);
        int above = 0;
        for (int rainy = 0; rainy <= n; rainy++) {
            if (Math.min(WETTEST, dampElse + WET_BY_RAIN * rainy) >= w) {
                above += waysOf(n, rainy) * power(x, rainy) * power(10 - x, n - rainy);
            }
        }
        return inLowestTerms(above, power(10, n), part);
    }

    public int february(int z, int n, int what) {
        if (!isWithin(z, 0, 9999) || !isWithin(n, 1, 60) || !isWithin(what, 0, 2)) {
            return BAD;
        }
        trial.copyFrom(field);
        for (int k = 0; k < n; k++) {
            actByDraw(drawOf(z, k));
            trial.hourGoesBy(land);
        }
        switch (what) {
            case 0:
                return trial.wordsTold();
            case 1:
                return Rows.sum(trial.heights);
            default:
                return Rows.sum(trial.burnt) - Rows.sum(field.burnt);
        }
    }

    public int keep() {
        if (kept.isFull()) {
            return FULL;
        }
        kept.push(field);
        return kept.size;
    }

    public int back() {
        if (kept.size == 0) {
            return NO;
        }
        kept.popInto(field);
        past.clear();
        return kept.size;
    }

    public int count(int what) {
        switch (what) {
            case 0:
                return land.mowers;
            case 1:
                return land.cows;
            case 2:
                return land.ricks;
            case 3:
                return field.hours;
            case 4:
                return Rows.sum(field.heights);
            case 5:
                return Rows.sum(field.burnt);
            case 6:
                return field.wordsTold();
            case 7:
                return seen.size;
            case 8:
                return past.size;
            case 9:
                return kept.size;
            case 10:
                return text.length;
            default:
                return BAD;
        }
    }

    private static boolean isWithin(int number, int least, int greatest) {
        return number >= least && number <= greatest;
    }

    private static boolean isWord(int w) {
        return isWithin(w, 0, GREATEST_WORD);
    }

    private boolean isMower(int m) {
        return m >= 0 && m < land.mowers;
    }

    private boolean isCow(int c) {
        return c >= 0 && c < land.cows;
    }

    private boolean isRick(int k) {
        return k >= 0 && k < land.ricks;
    }

    /** How many cuts from each rick, as three figures, or NONE. */
    private int fewestCuts(int c, int set) {
        int kind = land.kindOf(c);
        int cuts = NONE;
        int fewest = MOST_RICKS * MOST_LAYERS;
        int toldByFirst = Rows.at(field.told, c);
        for (int i = 0; i <= field.heightOf(0); i++) {
            int toldBySecond = toldByFirst;
            for (int j = 0; j <= field.heightOf(1); j++) {
                int fromThird = cutsOfThird(kind, set, toldBySecond);
                // as many cuts found later are more from the earlier ricks, so they go before
                if (fromThird != NONE && i + j + fromThird <= fewest) {
                    fewest = i + j + fromThird;
                    cuts = 100 * i + 10 * j + fromThird;
                }
                toldBySecond |= heardBy(kind, field.wordsFromTop(1, j), toldBySecond);
            }
            toldByFirst |= heardBy(kind, field.wordsFromTop(0, i), toldByFirst);
        }
        return cuts;
    }

    private int cutsOfThird(int kind, int set, int toldBefore) {
        int told = toldBefore;
        for (int i = 0; i <= field.heightOf(2); i++) {
            if ((told & set) == set) {
                return i;
            }
            told |= heardBy(kind, field.wordsFromTop(2, i), told);
        }
        return NONE;
    }

    private static int heardBy(int kind, int words, int told) {
        switch (kind) {
            case PLAIN:
                return words;
            case DEAF:
                return words & EVEN_WORDS;
            case SLOW:
                return words & -words;
            default:
                return wordsAboveAll(words, told);
        }
    }

    private static int wordsAboveAll(int words, int told) {
        int above = words;
        for (int w = 0; w <= GREATEST_WORD; w++) {
            if ((told >> w) != 0) {
                above &= ~(1 << w);
            }
        }
        return above;
    }

    private static int drawOf(int z, int k) {
        long x = 7919L * z + 6151L * k + 1;
        return (int) (x * x % 65521);
    }

    private void actByDraw(int draw) {
        int k = remainder(draw / 64, land.ricks);
        int m = remainder(draw / 8, land.mowers);
        int c = remainder(draw / 8, land.cows);
        switch (draw % 8) {
            case 0:
            case 1:
                if (trial.lyingIn(0, m) != 0 && trial.heightOf(k) < MOST_LAYERS) {
                    trial.gather(0, m, k);
                }
                break;
            case 2:
            case 3:
                if (trial.heightOf(k) > 0) {
                    trial.feed(k, c, land.kindOf(c));
                }
                break;
            case 4:
                Rows.put(trial.damp, m, 0);
                break;
            default:
                break;
        }
    }

    private static int remainder(int number, int divisor) {
        return divisor > 0 ? number % divisor : 0;
    }

    private static int power(int base, int exponent) {
        int product = 1;
        for (int i = 0; i < exponent; i++) {
            product *= base;
        }
        return product;
    }

    /** In how many ways some hours of n can be the rainy ones. */
    private static int waysOf(int n, int rainy) {
        int ways = 1;
        for (int i = 1; i <= rainy; i++) {
            ways = ways * (n - i + 1) / i;
        }
        return ways;
    }

    private static int inLowestTerms(int above, int below, int part) {
        int divisor = below;
        int rest = above;
        // Euclid needs far fewer steps than this for any int
        for (int i = 0; i < 100 && rest != 0; i++) {
            int next = divisor % rest;
            divisor = rest;
            rest = next;
        }
        int number = part == 0 ? above : below;
        return divisor != 0 ? number / divisor : number;
    }

    /** Rows read and set only where they have a place, so that no index can be wrong. */
    private static final class Rows {
        private Rows() {
        }

        static int at(int[] row, int i) {
            return i >= 0 && i < row.length ? row[i] : 0;
        }

        static void put(int[] row, int i, int number) {
            if (i >= 0 && i < row.length) {
                row[i] = number;
            }
        }

        static void copy(int[] from, int[] to) {
            for (int i = 0; i < from.length && i < to.length; i++) {
                to[i] = from[i];
            }
        }

        static int sum(int[] row) {
            int sum = 0;
            for (int i = 0; i < row.length; i++) {
                sum += row[i];
            }
            return sum;
        }
    }

    private static final class Text {
        private static final int MOST_LETTERS = 200;

        private final int[] letters = new int[MOST_LETTERS];
        private int length;

        static Text of(String signs) {
            Text text = new Text();
            for (int i = 0; i < signs.length(); i++) {
                text.add(signs.charAt(i));
            }
            return text;
        }

        boolean isFull() {
            return length >= MOST_LETTERS;
        }

        void add(int letter) {
            if (!isFull()) {
                Rows.put(letters, length, letter);
                length++;
            }
        }

        int letterAt(int place) {
            return place >= 0 && place < length && place < letters.length ? letters[place] : 0;
        }

        int figureAt(int place) {
            int figure = letterAt(place) - '0';
            return isWithin(figure, 0, 9) ? figure : NONE;
        }

        /** The place of the next ; from there on, or NONE. */
        int endFrom(int place) {
            for (int i = place; i < length; i++) {
                if (letterAt(i) == ';') {
                    return i;
                }
            }
            return NONE;
        }
    }

    /** What a text lays: the line of mowers, the weather, the cows and the ricks. */
    private static final class Land {
        private static final int LONGEST_ROW = 9;
        private static final int GREATEST_WEATHER = 3;
        private static final int GREATEST_THATCH = 9;

        private final int[] speeches = new int[MOST_MOWERS * LONGEST_ROW];
        private final int[] speechLengths = new int[MOST_MOWERS];
        private final int[] weather = new int[LONGEST_ROW];
        private final int[] kindsOfCows = new int[MOST_COWS];
        private final int[] thatches = new int[MOST_RICKS];
        private int weatherLength;
        private int mowers;
        private int cows;
        private int ricks;

        boolean isWhole() {
            return mowers > 0 && cows > 0 && ricks > 0;
        }

        int wordOf(int m, int hour) {
            return Rows.at(speeches, m * LONGEST_ROW + remainder(hour, Rows.at(speechLengths, m)));
        }

        int weatherOf(int hour) {
            return weatherLength > 0 ? Rows.at(weather, remainder(hour, weatherLength)) : 0;
        }

        int kindOf(int c) {
            return Rows.at(kindsOfCows, c);
        }

        int thatchOf(int k) {
            return Rows.at(thatches, k);
        }

        /** Lays what the text tells, as far as its fault: where that is, or NONE. */
        int readText(Text text) {
            mowers = 0;
            cows = 0;
            ricks = 0;
            weatherLength = 0;
            int place = 0;
            for (int i = 0; i < Text.MOST_LETTERS && place < text.length; i++) {
                int end = text.endFrom(place);
                if (end == NONE || !readItem(text, place, end)) {
                    return place;
                }
                place = end + 1;
            }
            return NONE;
        }

        private boolean readItem(Text text, int place, int end) {
            switch (text.letterAt(place)) {
                case 'm':
                    return readMower(text, place + 1, end);
                case 'e':
                    return readWeather(text, place + 1, end);
                case 'c':
                    return readCow(text, place + 1, end);
                case 'k':
                    return readRick(text, place + 1, end);
                default:
                    return false;
            }
        }

        private boolean readMower(Text text, int from, int end) {
            if (mowers >= MOST_MOWERS
                    || !readRow(text, from, end, GREATEST_WORD, speeches, mowers * LONGEST_ROW)) {
                return false;
            }
            Rows.put(speechLengths, mowers, end - from);
            mowers++;
            return true;
        }

        private boolean readWeather(Text text, int from, int end) {
            if (!readRow(text, from, end, GREATEST_WEATHER, weather, 0)) {
                return false;
            }
            weatherLength = end - from;
            return true;
        }

        private boolean readCow(Text text, int from, int end) {
            int kind = numberIn(text, from, end);
            if (cows >= MOST_COWS || !isWithin(kind, 0, KINDS_OF_COWS - 1)) {
                return false;
            }
            Rows.put(kindsOfCows, cows, kind);
            cows++;
            return true;
        }

        private boolean readRick(Text text, int from, int end) {
            int thatch = numberIn(text, from, end);
            if (ricks >= MOST_RICKS || !isWithin(thatch, 0, GREATEST_THATCH)) {
                return false;
            }
            Rows.put(thatches, ricks, thatch);
            ricks++;
            return true;
        }

        private static boolean readRow(Text text, int from, int end, int greatest, int[] row, int start) {
            int length = end - from;
            if (!isWithin(length, 1, LONGEST_ROW)) {
                return false;
            }
            for (int i = 0; i < length; i++) {
                int figure = text.figureAt(from + i);
                if (!isWithin(figure, 0, greatest)) {
                    return false;
                }
                Rows.put(row, start + i, figure);
            }
            return true;
        }

        /** The number of one or two figures that fills the place, or NONE. */
        private static int numberIn(Text text, int from, int end) {
            int length = end - from;
            if (!isWithin(length, 1, 2)) {
                return NONE;
            }
            int number = 0;
            for (int i = 0; i < length; i++) {
                int figure = text.figureAt(from + i);
                if (figure == NONE) {
                    return NONE;
                }
                number = 10 * number + figure;
            }
            return number;
        }
    }

    /** All that acts and hours change; the layers of rick k stand at 8 k and behind, the lowest first. */
    private static final class Field {
        private final int[] lying = new int[MOST_MOWERS];
        private final int[] damp = new int[MOST_MOWERS];
        private final int[] told = new int[MOST_COWS];
        private final int[] heights = new int[MOST_RICKS];
        private final int[] burnt = new int[MOST_RICKS];
        private final int[] layerWords = new int[MOST_RICKS * MOST_LAYERS];
        private final int[] layerWetness = new int[MOST_RICKS * MOST_LAYERS];
        private final int[] layerHeat = new int[MOST_RICKS * MOST_LAYERS];
        private int hours;

        void clear() {
            hours = 0;
            Arrays.fill(lying, 0);
            Arrays.fill(damp, 0);
            Arrays.fill(told, 0);
            Arrays.fill(heights, 0);
            Arrays.fill(burnt, 0);
        }

        void copyFrom(Field other) {
            hours = other.hours;
            Rows.copy(other.lying, lying);
            Rows.copy(other.damp, damp);
            Rows.copy(other.told, told);
            Rows.copy(other.heights, heights);
            Rows.copy(other.burnt, burnt);
            Rows.copy(other.layerWords, layerWords);
            Rows.copy(other.layerWetness, layerWetness);
            Rows.copy(other.layerHeat, layerHeat);
        }

        int heightOf(int k) {
            return Rows.at(heights, k);
        }

        int wordsOf(int k, int i) {
            return Rows.at(layerWords, k * MOST_LAYERS + i);
        }

        int wetnessOf(int k, int i) {
            return Rows.at(layerWetness, k * MOST_LAYERS + i);
        }

        int heatOf(int k, int i) {
            return Rows.at(layerHeat, k * MOST_LAYERS + i);
        }

        /** The words of the layer under so many others, none where there is no such layer. */
        int wordsFromTop(int k, int others) {
            return others < heightOf(k) ? wordsOf(k, heightOf(k) - 1 - others) : 0;
        }

        int hottestOf(int k) {
            int hottest = 0;
            for (int i = 0; i < heightOf(k); i++) {
                hottest = Math.max(hottest, heatOf(k, i));
            }
            return hottest;
        }

        int wordsTold() {
            int words = 0;
            for (int c = 0; c < MOST_COWS; c++) {
                words += Integer.bitCount(Rows.at(told, c));
            }
            return words;
        }

        int lyingIn(int a, int b) {
            int words = 0;
            for (int m = a; m <= b && m < MOST_MOWERS; m++) {
                words |= Rows.at(lying, m);
            }
            return words;
        }

        /** The places from the bottom of all layers of a rick that have the word, together. */
        int placesOf(int k, int w) {
            int places = 0;
            for (int i = 0; i < heightOf(k); i++) {
                if ((wordsOf(k, i) >> w & 1) != 0) {
                    places += i + 1;
                }
            }
            return places;
        }

        void hoursGoBy(Land land, int n) {
            for (int i = 0; i < n; i++) {
                hourGoesBy(land);
            }
        }

        void hourGoesBy(Land land) {
            for (int k = 0; k < land.ricks; k++) {
                heatRick(k, land.thatchOf(k));
            }
            int weather = land.weatherOf(hours);
            for (int m = 0; m < land.mowers; m++) {
                Rows.put(lying, m, Rows.at(lying, m) | 1 << land.wordOf(m, hours));
                Rows.put(damp, m, Math.min(WETTEST, Rows.at(damp, m) + weather));
            }
            hours++;
        }

        private void heatRick(int k, int thatch) {
            for (int i = 0; i < heightOf(k); i++) {
                int hotter = Math.max(0, wetnessOf(k, i) - thatch);
                Rows.put(layerHeat, k * MOST_LAYERS + i, heatOf(k, i) + hotter);
            }
            if (hottestOf(k) >= BURNING) {
                Rows.put(heights, k, 0);
                Rows.put(burnt, k, Rows.at(burnt, k) + 1);
            }
        }

        void gather(int a, int b, int k) {
            int wetness = 0;
            for (int m = a; m <= b && m < MOST_MOWERS; m++) {
                wetness += Rows.at(damp, m);
            }
            addLayer(k, lyingIn(a, b), Math.min(WETTEST, wetness), 0);
            for (int m = a; m <= b && m < MOST_MOWERS; m++) {
                Rows.put(lying, m, 0);
                Rows.put(damp, m, 0);
            }
        }

        void stack(int j, int k) {
            int height = heightOf(j);
            for (int i = 0; i < height; i++) {
                addLayer(k, wordsOf(j, i), wetnessOf(j, i), heatOf(j, i));
            }
            Rows.put(heights, j, 0);
        }

        private void addLayer(int k, int words, int wetness, int heat) {
            int height = heightOf(k);
            if (height < MOST_LAYERS) {
                Rows.put(layerWords, k * MOST_LAYERS + height, words);
                Rows.put(layerWetness, k * MOST_LAYERS + height, wetness);
                Rows.put(layerHeat, k * MOST_LAYERS + height, heat);
                Rows.put(heights, k, height + 1);
            }
        }

        /** What the top layer would tell the cow that it was not told. */
        int freshFor(int k, int c, int kind) {
            int before = Rows.at(told, c);
            return heardBy(kind, wordsFromTop(k, 0), before) & ~before;
        }

        int feed(int k, int c, int kind) {
            int fresh = freshFor(k, c, kind);
            Rows.put(told, c, Rows.at(told, c) | fresh);
            Rows.put(heights, k, Math.max(0, heightOf(k) - 1));
            return fresh;
        }
    }

    /** Fields put by; the newest comes back first, the oldest gives way when there is no place. */
    private static final class Pile {
        private final Field[] fields;
        private int newest;
        private int size;

        Pile(int places) {
            fields = new Field[Math.max(1, places)];
            for (int i = 0; i < fields.length; i++) {
                fields[i] = new Field();
            }
        }

        boolean isFull() {
            return size >= fields.length;
        }

        void clear() {
            size = 0;
        }

        void push(Field field) {
            newest = newest + 1 < fields.length ? newest + 1 : 0;
            Field place = newestField();
            if (place != null) {
                place.copyFrom(field);
            }
            size = Math.min(fields.length, size + 1);
        }

        void popInto(Field field) {
            Field place = newestField();
            if (size > 0 && place != null) {
                field.copyFrom(place);
                size--;
                newest = newest > 0 ? newest - 1 : fields.length - 1;
            }
        }

        private Field newestField() {
            return newest >= 0 && newest < fields.length ? fields[newest] : null;
        }
    }

    /** What a mower, always the same, was heard to say. */
    private static final class Seen {
        private static final int MOST_SEEN = 6;

        private final int[] words = new int[MOST_SEEN];
        private final int[] hours = new int[MOST_SEEN];
        private int size;

        boolean isFull() {
            return size >= MOST_SEEN;
        }

        void add(int word, int hour) {
            Rows.put(words, size, word);
            Rows.put(hours, size, hour);
            size++;
        }

        boolean isSoOf(Land land, int m) {
            for (int i = 0; i < size; i++) {
                if (land.wordOf(m, Rows.at(hours, i)) != Rows.at(words, i)) {
                    return false;
                }
            }
            return true;
        }
    }
}
