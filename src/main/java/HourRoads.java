/**
 * Roads from hours: what travellers tell of their hours from town to town, the lands that bear
 * them, and the nets of roads that would explain them. The document's promises are numbered; the
 * public methods stand in that order.
 *
 * <p>All rows are made with the object and used again, so that no call makes anything.
 */
public final class HourRoads {
    public static final int BAD = -1, STATE = -2, FULL = -3, NONE = -4;

    private static final int MIN_TOWNS = 2;
    private static final int MAX_TOWNS = 8;
    private static final int FIRST_TOWNS = 4;
    private static final int MAX_PAIRS = 28;
    private static final int MAX_HOURS = 24;
    private static final int MAX_MINUTES = 9999;
    private static final int MAX_WRITER = 5;
    private static final int SUMMER = 1;
    private static final int WINTER = 2;
    /** More than this many are not searched: their sets would be too many. */
    private static final int MAX_SEARCHED = 12;
    /** Where the document counts on from 10: places of FAULTS, numbers of a row, TOWNS. */
    private static final int FROM_TEN = 10;

    private final Tape tape;
    private final TextReader reader;
    private final Land land;
    private final Corner cornerStone;
    private final DoubtSearch doubtSearch;
    private final ShutSearch shutSearch;
    private final Net handNet;
    private final Sheets sheets;
    private Hours told;
    private Hours draft;
    private int townCount;
    private int seasonNow;
    private int latestFault;

    public HourRoads() {
        tape = new Tape();
        reader = new TextReader(tape);
        told = new Hours();
        draft = new Hours();
        land = new Land(told);
        cornerStone = new Corner();
        Land trial = new Land(told);
        doubtSearch = new DoubtSearch(trial);
        shutSearch = new ShutSearch(trial);
        handNet = new Net();
        sheets = new Sheets();
        startOver(FIRST_TOWNS);
    }

    // ---- towns, hours

    public int towns(int v) {
        if (v < MIN_TOWNS || v > MAX_TOWNS) {
            return BAD;
        }
        int was = townCount;
        startOver(v);
        return was;
    }

    public int feed(long v) {
        return tape.takeEight(v) ? tape.size : FULL;
    }

    public int end(int n) {
        if (n < 0 || n > tape.size) {
            return BAD;
        }
        int had = tape.size;
        tape.size = n;
        return had;
    }

    public int hours() {
        boolean isTaken = reader.tellInto(draft, townCount);
        tape.size = 0;
        latestFault = reader.fault;
        if (!isTaken) {
            return -FROM_TEN - reader.faultPlace;
        }
        Hours spare = told;
        told = draft;
        draft = spare;
        surveyLand();
        return told.size;
    }

    public int fault() {
        return latestFault;
    }

    public int hour(int k, int what) {
        if (!told.has(k) || what < 0 || what > 7) {
            return BAD;
        }
        if (what == 6) {
            return bitOf(told.doubted, k);
        }
        if (what == 7) {
            return bitOf(land.counted, k);
        }
        return told.fact(k, what);
    }

    public int doubt(int k, boolean is) {
        if (!told.has(k)) {
            return BAD;
        }
        int was = bitOf(told.doubted, k);
        told.doubted = is ? told.doubted | 1 << k : told.doubted & ~(1 << k);
        surveyLand();
        return was;
    }

    public int season(int v) {
        if (v != SUMMER && v != WINTER) {
            return BAD;
        }
        int was = seasonNow;
        seasonNow = v;
        surveyLand();
        return was;
    }

    // ---- lands

    public int can() {
        return land.canBe() ? 1 : 0;
    }

    public int longest(int a, int b) {
        if (!areTwoTowns(a, b)) {
            return BAD;
        }
        return land.ways.joins(a, b) ? land.ways.minutes(a, b) : NONE;
    }

    public int shortest(int a, int b) {
        int refusal = refusalOfPair(a, b);
        return refusal != 0 ? refusal : land.shortOf(a, b);
    }

    public int must(int a, int b) {
        int refusal = refusalOfPair(a, b);
        if (refusal != 0) {
            return refusal;
        }
        return land.needsOwnRoad(a, b) ? 1 : 0;
    }

    public int bars(int what) {
        if (!isBarsQuestion(what)) {
            return BAD;
        }
        if (land.canBe()) {
            return NONE;
        }
        if (what == 0) {
            return land.barring;
        }
        land.layRow();
        if (what == 1) {
            return land.rowSize;
        }
        int i = what - FROM_TEN;
        return i < land.rowSize ? land.row[i] : NONE;
    }

    public int ask(int what) {
        if (what != 0 && what != 1) {
            return BAD;
        }
        if (!land.canBe()) {
            return STATE;
        }
        int pair = land.widestPair();
        if (pair < 0) {
            return NONE;
        }
        return what == 0 ? pair : land.widthOf(pair / MAX_TOWNS, pair % MAX_TOWNS);
    }

    public int heaps() {
        return land.heapCount();
    }

    // ---- roads

    public int roads() {
        return land.roadCount;
    }

    public int road(int k, int what) {
        if (k < 0 || k >= land.roadCount || what < 0 || what > 2) {
            return BAD;
        }
        if (what == 2) {
            return land.roadMinutes(k);
        }
        return what == 0 ? land.less[k] : land.greater[k];
    }

    public int wrong(int what) {
        if (what < 0 || what > 2) {
            return BAD;
        }
        if (Integer.bitCount(land.counted) > MAX_SEARCHED) {
            return STATE;
        }
        doubtSearch.searchHours(told, land.counted, townCount);
        return doubtSearch.found(what);
    }

    public int writers(int what) {
        if (what < 0 || what > 2) {
            return BAD;
        }
        doubtSearch.searchWriters(told, land.counted, townCount);
        return doubtSearch.found(what);
    }

    public int part(int w, int v, int what) {
        if (!isWriter(w) || !isWriter(v) || w == v || what < 0 || what > 4) {
            return BAD;
        }
        return told.partOf(w, v, what);
    }

    // ---- trees, corners, winter

    public int tree(int what) {
        if (what != 0 && what != 1) {
            return BAD;
        }
        if (land.heapCount() != 1) {
            return STATE;
        }
        int bar = land.fourThatBarTree();
        if (what == 0) {
            return bar < 0 ? 1 : 0;
        }
        return bar < 0 ? NONE : bar;
    }

    public int corner(int a, int b, int c, int what) {
        if (!areThreeInOrder(a, b, c) || !isCornerQuestion(what)) {
            return BAD;
        }
        if (!land.joinsThree(a, b, c)) {
            return STATE;
        }
        if (!cornerStone.setBy(land, a, b, c)) {
            return NONE;
        }
        if (what >= FROM_TEN) {
            int far = cornerStone.far[what - FROM_TEN];
            return far < 0 ? NONE : far;
        }
        return what == 0 ? cornerStone.gain : cornerStone.roadsStoodFor;
    }

    public int best(int what) {
        if (what != 0 && what != 1) {
            return BAD;
        }
        cornerStone.setBest(land);
        if (cornerStone.bestGain <= 0) {
            return NONE;
        }
        return what == 0 ? cornerStone.bestGain : cornerStone.bestTowns;
    }

    public int shut(int what) {
        if (what != 0 && what != 1) {
            return BAD;
        }
        shutSearch.surveySummer(told, townCount);
        if (!shutSearch.summer.canBe() || shutSearch.summer.roadCount > MAX_SEARCHED) {
            return STATE;
        }
        shutSearch.searchRoads();
        return shutSearch.found(what);
    }

    // ---- nets by hand

    public int net(int a, int b, int v) {
        if (!areTwoTowns(a, b) || v < 0 || v > MAX_MINUTES) {
            return BAD;
        }
        int was = handNet.roadOf(a, b);
        handNet.put(a, b, v);
        handNet.measure();
        return was;
    }

    /** The document does not rule out one and the same TOWN here: no road is needed, 0. */
    public int way(int a, int b) {
        if (!isTown(a) || !isTown(b)) {
            return BAD;
        }
        return handNet.ways.joins(a, b) ? handNet.ways.minutes(a, b) : NONE;
    }

    public int judge(int what) {
        switch (what) {
            case 0:
                return handNet.countAmiss(told, land.counted);
            case 1:
                return handNet.greatestMiss(told, land.counted);
            case 2:
                return handNet.firstAmiss(told, land.counted);
            case 3:
                return handNet.countNeedless();
            default:
                return BAD;
        }
    }

    public int draw() {
        if (!land.canBe()) {
            return STATE;
        }
        handNet.clear(townCount);
        for (int k = 0; k < land.roadCount; k++) {
            handNet.put(land.less[k], land.greater[k], land.roadMinutes(k));
        }
        handNet.measure();
        return land.roadCount;
    }

    // ---- sheets

    public int sheet(int k, int lane, int n) {
        if (!Sheets.isSheet(k) || !Sheets.isLane(lane) || n > Sheets.MAX_CELLS) {
            return BAD;
        }
        if (n < 0) {
            return -FROM_TEN - Sheets.SIZE;
        }
        sheets.renew(k, lane, n);
        return 1;
    }

    public int lay(int k, int i, int v) {
        if (!Sheets.isSheet(k)) {
            return BAD;
        }
        int found = sheets.isNothing(k) ? Sheets.NULL : sheets.hasCell(k, i) ? 0 : Sheets.INDEX;
        if (found != 0) {
            return -FROM_TEN - found;
        }
        sheets.put(k, i, v);
        return 1;
    }

    public int read(int k, int lane, int f) {
        if (!Sheets.isSheet(k) || !Sheets.isLane(lane)) {
            return BAD;
        }
        int found = sheets.isNothing(k) ? Sheets.NULL : sheets.isOfLane(k, lane) ? 0 : Sheets.CAST;
        if (found != 0) {
            return -FROM_TEN - found;
        }
        int refusal = sheets.refusalOfRoads(k, f, townCount * (townCount - 1) / 2);
        if (refusal != 0) {
            return refusal;
        }
        takeRoads(k, f);
        return handNet.roadCount();
    }

    public int count(int what) {
        switch (what) {
            case 0:
                return townCount;
            case 1:
                return told.size;
            case 2:
                return Integer.bitCount(land.counted);
            case 3:
                return Integer.bitCount(told.doubted);
            case 4:
                return told.writerCount();
            case 5:
                return seasonNow;
            case 6:
                return handNet.roadCount();
            case 7:
                return tape.size;
            case 8:
                return sheets.isNothing(0) ? NONE : sheets.sizeOf(0);
            default:
                return BAD;
        }
    }

    // ---- what the calls share

    private void startOver(int n) {
        townCount = n;
        seasonNow = SUMMER;
        told.clear();
        handNet.clear(n);
        handNet.measure();
        surveyLand();
    }

    /** Kept up with every change, so that each question finds the land of the hour. */
    private void surveyLand() {
        land.survey(told, told.countedIn(seasonNow), townCount);
        land.layRoads();
    }

    private void takeRoads(int k, int f) {
        int cell = f;
        for (int a = 0; a < townCount; a++) {
            for (int b = a + 1; b < townCount; b++) {
                handNet.put(a, b, sheets.cellOf(k, cell));
                cell++;
            }
        }
        handNet.measure();
    }

    private boolean isTown(int t) {
        return t >= 0 && t < townCount;
    }

    private boolean areTwoTowns(int a, int b) {
        return isTown(a) && isTown(b) && a != b;
    }

    private boolean areThreeInOrder(int a, int b, int c) {
        return isTown(a) && isTown(b) && isTown(c) && a < b && b < c;
    }

    /** A ROW is of HOURS, and more than MAX_HOURS are never told: beyond, no ROW has a place. */
    private static boolean isBarsQuestion(int what) {
        return what == 0 || what == 1 || what >= FROM_TEN && what < FROM_TEN + MAX_HOURS;
    }

    private boolean isCornerQuestion(int what) {
        return what == 0 || what == 1 || what >= FROM_TEN && isTown(what - FROM_TEN);
    }

    /** 0 if SHORT and MUST can be told of the two. */
    private int refusalOfPair(int a, int b) {
        if (!areTwoTowns(a, b)) {
            return BAD;
        }
        if (!land.canBe()) {
            return STATE;
        }
        return land.ways.joins(a, b) ? 0 : NONE;
    }

    private static boolean isWriter(int w) {
        return w >= 0 && w <= MAX_WRITER;
    }

    private static int bitOf(int bits, int k) {
        return bits >>> k & 1;
    }

    // ---- the tape and its text

    private static final class Tape {
        static final int MAX_BYTES = 240;
        /** What stands behind the last byte: no byte is below 0. */
        static final int NO_BYTE = -1;

        private final byte[] bytes = new byte[MAX_BYTES];
        private int size;

        boolean takeEight(long v) {
            if (size > MAX_BYTES - 8) {
                return false;
            }
            for (int i = 0; i < 8; i++) {
                bytes[size + i] = (byte) (v >>> 56 - 8 * i);
            }
            size += 8;
            return true;
        }

        int byteAt(int place) {
            return place >= 0 && place < size ? bytes[place] & 255 : NO_BYTE;
        }
    }

    /**
     * Reads lines of HOURS. A TOKEN is looked at only when the one before has been taken, because
     * the FAULT that is told is the first one met.
     */
    private static final class TextReader {
        private static final int AT_END = 0;
        private static final int NAME = 1;
        private static final int NUMBER = 2;
        private static final int SEMICOLON = 3;
        private static final int STRANGE = 4;
        private static final int MAX_FIGURES = 4;
        private static final int NO_TOKEN = 1;
        private static final int CANNOT_STAND = 2;
        private static final int OUT_OF_BOUNDS = 3;
        private static final int NO_TOWN = 4;
        private static final int TOO_MANY = 5;
        /** What a step answers that met a FAULT; what it reads otherwise is 0 or more. */
        private static final int REFUSED = -1;

        private final Tape tape;
        private int towns;
        private int kind;
        private int start;
        private int stop;
        private int fault;
        private int faultPlace;

        TextReader(Tape tape) {
            this.tape = tape;
        }

        boolean tellInto(Hours hours, int townCount) {
            hours.clear();
            towns = townCount;
            stop = 0;
            fault = 0;
            for (int line = 0; line <= MAX_HOURS; line++) {
                if (!takeToken()) {
                    return false;
                }
                if (kind == AT_END) {
                    return true;
                }
                if (!tellLine(hours)) {
                    return false;
                }
            }
            return false;
        }

        private boolean tellLine(Hours hours) {
            int first = firstTown(hours.isFull());
            int second = first < 0 ? REFUSED : secondTown(first);
            int least = second < 0 ? REFUSED : numberWithin(1, MAX_MINUTES);
            if (least < 0 || !takeToken()) {
                return false;
            }
            int most = least;
            if (spells("to")) {
                most = numberWithin(least, MAX_MINUTES);
                if (most < 0 || !takeToken()) {
                    return false;
                }
            }
            int writer = 0;
            if (spells("by")) {
                writer = numberWithin(0, MAX_WRITER);
                if (writer < 0 || !takeToken()) {
                    return false;
                }
            }
            int season = spells("summer") ? SUMMER : spells("winter") ? WINTER : 0;
            if (season != 0 && !takeToken()) {
                return false;
            }
            if (kind != SEMICOLON) {
                refuse(CANNOT_STAND);
                return false;
            }
            hours.add(first, second, least, most, writer, season);
            return true;
        }

        private int firstTown(boolean isFull) {
            if (!isLetter()) {
                return refuse(CANNOT_STAND);
            }
            return isFull ? refuse(TOO_MANY) : townHere();
        }

        private int secondTown(int first) {
            if (!takeToken()) {
                return REFUSED;
            }
            if (!isLetter()) {
                return refuse(CANNOT_STAND);
            }
            int second = townHere();
            return second == first ? refuse(NO_TOWN) : second;
        }

        private boolean isLetter() {
            return kind == NAME && stop - start == 1;
        }

        private int townHere() {
            int town = tape.byteAt(start) - 'a';
            return town < towns ? town : refuse(NO_TOWN);
        }

        private int numberWithin(int low, int high) {
            if (!takeToken()) {
                return REFUSED;
            }
            if (kind != NUMBER) {
                return refuse(CANNOT_STAND);
            }
            int value = 0;
            for (int place = start; place < stop; place++) {
                value = 10 * value + tape.byteAt(place) - '0';
            }
            return value < low || value > high ? refuse(OUT_OF_BOUNDS) : value;
        }

        private boolean spells(String word) {
            if (kind != NAME || stop - start != word.length()) {
                return false;
            }
            for (int i = 0; i < word.length(); i++) {
                if (tape.byteAt(start + i) != word.charAt(i)) {
                    return false;
                }
            }
            return true;
        }

        private boolean takeToken() {
            start = stop;
            for (int i = 0; i < Tape.MAX_BYTES && tape.byteAt(start) == ' '; i++) {
                start++;
            }
            int sign = tape.byteAt(start);
            if (sign >= 'a' && sign <= 'z') {
                kind = NAME;
                stop = endOfRun('a', 'z');
            } else if (sign >= '0' && sign <= '9') {
                kind = NUMBER;
                stop = endOfRun('0', '9');
            } else {
                kind = sign == ';' ? SEMICOLON : sign == Tape.NO_BYTE ? AT_END : STRANGE;
                stop = start + 1;
            }
            if (kind == STRANGE || kind == NUMBER && stop - start > MAX_FIGURES) {
                refuse(NO_TOKEN);
                return false;
            }
            return true;
        }

        private int endOfRun(char low, char high) {
            int place = start;
            for (int i = 0; i < Tape.MAX_BYTES; i++) {
                int sign = tape.byteAt(place);
                if (sign < low || sign > high) {
                    break;
                }
                place++;
            }
            return place;
        }

        private int refuse(int code) {
            fault = code;
            faultPlace = start;
            return REFUSED;
        }
    }

    /** HOURS as they were told. */
    private static final class Hours {
        private static final int FACTS = 6;
        private static final int FIRST = 0;
        private static final int SECOND = 1;
        private static final int LEAST = 2;
        private static final int MOST = 3;
        private static final int WRITER = 4;
        private static final int SEASON = 5;

        /** FACTS of each HOUR, in the order in which the call hour asks for them. */
        private final int[] facts = new int[MAX_HOURS * FACTS];
        private int size;
        private int doubted;

        void clear() {
            size = 0;
            doubted = 0;
        }

        boolean isFull() {
            return size >= MAX_HOURS;
        }

        void add(int first, int second, int least, int most, int writer, int season) {
            if (isFull()) {
                return;
            }
            int at = size * FACTS;
            facts[at + FIRST] = first;
            facts[at + SECOND] = second;
            facts[at + LEAST] = least;
            facts[at + MOST] = most;
            facts[at + WRITER] = writer;
            facts[at + SEASON] = season;
            size++;
        }

        boolean has(int k) {
            return k >= 0 && k < size;
        }

        int fact(int k, int what) {
            return facts[k * FACTS + what];
        }

        int lesserTown(int k) {
            return Math.min(fact(k, FIRST), fact(k, SECOND));
        }

        int greaterTown(int k) {
            return Math.max(fact(k, FIRST), fact(k, SECOND));
        }

        /** The other end of an HOUR that starts or ends in the TOWN; below 0 if it does neither. */
        int otherEnd(int k, int town) {
            if (fact(k, FIRST) == town) {
                return fact(k, SECOND);
            }
            return fact(k, SECOND) == town ? fact(k, FIRST) : -1;
        }

        int countedIn(int seasonNow) {
            return (having(SEASON, 0) | having(SEASON, seasonNow)) & ~doubted;
        }

        int toldForWinterAlone() {
            return having(SEASON, WINTER) & ~doubted;
        }

        int writtenBy(int writer) {
            return having(WRITER, writer);
        }

        private int having(int what, int value) {
            int bits = 0;
            for (int k = 0; k < size; k++) {
                bits |= fact(k, what) == value ? 1 << k : 0;
            }
            return bits;
        }

        int writerCount() {
            int writers = 0;
            for (int k = 0; k < size; k++) {
                writers |= 1 << fact(k, WRITER);
            }
            return Integer.bitCount(writers);
        }

        /** How far minutes are outside the ends of an HOUR. */
        int missOf(int k, int minutes) {
            return Math.max(0, Math.max(fact(k, LEAST) - minutes, minutes - fact(k, MOST)));
        }

        int partOf(int w, int v, int what) {
            int mine = writtenBy(w) & ~doubted;
            int theirs = writtenBy(v) & ~doubted;
            int top = 0;
            int under = 0;
            int pairs = 0;
            boolean isLesserEnd = what < 2;
            for (int k = 0; k < size; k++) {
                for (int m = 0; m < size; m++) {
                    if (bitOf(mine, k) == 0 || bitOf(theirs, m) == 0 || !areAlike(k, m)) {
                        continue;
                    }
                    int upper = fact(k, isLesserEnd ? LEAST : MOST);
                    int lower = fact(m, isLesserEnd ? MOST : LEAST);
                    int difference = upper * under - top * lower;
                    if (pairs == 0 || (isLesserEnd ? difference > 0 : difference < 0)) {
                        top = upper;
                        under = lower;
                    }
                    pairs++;
                }
            }
            if (what == 4) {
                return pairs;
            }
            return pairs == 0 ? NONE : (what % 2 == 0 ? top : under) / commonDivisor(top, under);
        }

        private boolean areAlike(int k, int m) {
            return lesserTown(k) == lesserTown(m) && greaterTown(k) == greaterTown(m)
                && fact(k, SEASON) == fact(m, SEASON);
        }

        /** At least 1, so that it may divide. */
        private static int commonDivisor(int a, int b) {
            int greater = Math.max(a, b);
            int lesser = Math.min(a, b);
            for (int i = 0; i < 64 && lesser > 0; i++) {
                int rest = greater % lesser;
                greater = lesser;
                lesser = rest;
            }
            return Math.max(greater, 1);
        }
    }

    /**
     * The least sums between TOWNS. A sum keeps its minutes and, in the four bits below them, how
     * many steps it took: the least such sum is the shortest way with the fewest steps.
     */
    private static final class Ways {
        private static final int STEP_BITS = 4;
        /** Far above any sum, and twice of it is still an int. */
        private static final int NO_SUM = 1 << 28;

        private final int[] sums = new int[MAX_TOWNS * MAX_TOWNS];
        private int towns;

        void clear(int townCount) {
            towns = townCount;
            for (int a = 0; a < towns; a++) {
                for (int b = 0; b < towns; b++) {
                    sums[a * MAX_TOWNS + b] = a == b ? 0 : NO_SUM;
                }
            }
        }

        void join(int a, int b, int minutes) {
            int sum = oneStep(minutes);
            if (sum < sums[a * MAX_TOWNS + b]) {
                put(a, b, sum);
            }
        }

        void settle() {
            for (int over = 0; over < towns; over++) {
                for (int a = 1; a < towns; a++) {
                    int head = sums[a * MAX_TOWNS + over];
                    if (head >= NO_SUM || a == over) {
                        continue;
                    }
                    for (int b = 0; b < a; b++) {
                        int sum = head + sums[over * MAX_TOWNS + b];
                        if (sum < sums[a * MAX_TOWNS + b]) {
                            put(a, b, sum);
                        }
                    }
                }
            }
        }

        boolean joins(int a, int b) {
            return sums[a * MAX_TOWNS + b] < NO_SUM;
        }

        int minutes(int a, int b) {
            return sums[a * MAX_TOWNS + b] >> STEP_BITS;
        }

        /** Whether the step to next is the first of a shortest way with the fewest steps. */
        boolean leadsOn(int at, int next, int goal, int minutes) {
            int rest = oneStep(minutes) + sums[next * MAX_TOWNS + goal];
            return sums[at * MAX_TOWNS + goal] == rest;
        }

        private void put(int a, int b, int sum) {
            sums[a * MAX_TOWNS + b] = sum;
            sums[b * MAX_TOWNS + a] = sum;
        }

        private static int oneStep(int minutes) {
            return (minutes << STEP_BITS) + 1;
        }
    }

    /** The LAND of LONGS of those HOURS that COUNT. */
    private static final class Land {
        private final Ways ways = new Ways();
        private final int[] row = new int[MAX_TOWNS - 1];
        private final int[] less = new int[MAX_PAIRS];
        private final int[] greater = new int[MAX_PAIRS];
        private Hours hours;
        private int counted;
        private int towns;
        /** The HOUR that BARS, below 0 if the land CAN BE. */
        private int barring;
        private int rowSize;
        private int roadCount;

        Land(Hours hours) {
            this.hours = hours;
            barring = -1;
        }

        void survey(Hours toldHours, int countedBits, int townCount) {
            hours = toldHours;
            counted = countedBits;
            towns = townCount;
            ways.clear(towns);
            for (int k = 0; k < hours.size; k++) {
                if (bitOf(counted, k) == 1) {
                    ways.join(hours.fact(k, Hours.FIRST), hours.fact(k, Hours.SECOND),
                        hours.fact(k, Hours.MOST));
                }
            }
            ways.settle();
            barring = firstBarring();
            rowSize = 0;
            roadCount = 0;
        }

        private int firstBarring() {
            for (int k = 0; k < hours.size; k++) {
                if (bitOf(counted, k) == 1 && hours.fact(k, Hours.LEAST) > longOfHour(k)) {
                    return k;
                }
            }
            return -1;
        }

        private int longOfHour(int k) {
            return ways.minutes(hours.fact(k, Hours.FIRST), hours.fact(k, Hours.SECOND));
        }

        boolean canBe() {
            return barring < 0;
        }

        void layRow() {
            rowSize = 0;
            if (canBe()) {
                return;
            }
            int at = hours.lesserTown(barring);
            int goal = hours.greaterTown(barring);
            for (int i = 0; i < row.length && at != goal; i++) {
                int step = leastStep(at, goal);
                if (step < 0) {
                    return;
                }
                row[i] = step;
                rowSize = i + 1;
                at = hours.otherEnd(step, at);
            }
        }

        private int leastStep(int at, int goal) {
            for (int k = 0; k < hours.size; k++) {
                int next = hours.otherEnd(k, at);
                if (bitOf(counted, k) == 1 && next >= 0
                    && ways.leadsOn(at, next, goal, hours.fact(k, Hours.MOST))) {
                    return k;
                }
            }
            return -1;
        }

        /** HOURS that can not all stand together: the one that BARS and its ROW, once laid. */
        int quarrel() {
            if (canBe()) {
                return 0;
            }
            int bits = 1 << barring;
            for (int i = 0; i < rowSize; i++) {
                bits |= 1 << row[i];
            }
            return bits;
        }

        int shortOf(int a, int b) {
            int found = 1;
            for (int k = 0; k < hours.size; k++) {
                int c = hours.fact(k, Hours.FIRST);
                int d = hours.fact(k, Hours.SECOND);
                if (bitOf(counted, k) == 0 || !ways.joins(a, c)) {
                    continue;
                }
                int over = Math.min(ways.minutes(c, a) + ways.minutes(d, b),
                    ways.minutes(c, b) + ways.minutes(d, a));
                found = Math.max(found, hours.fact(k, Hours.LEAST) - over);
            }
            return found;
        }

        int widthOf(int a, int b) {
            return ways.minutes(a, b) - shortOf(a, b);
        }

        boolean needsOwnRoad(int a, int b) {
            int straight = ways.minutes(a, b);
            for (int t = 0; t < towns; t++) {
                if (t != a && t != b && ways.joins(a, t)
                    && shortOf(a, t) + shortOf(t, b) <= straight) {
                    return false;
                }
            }
            return true;
        }

        /** 8 times the less TOWN and the greater one, below 0 if nothing is left to ask. */
        int widestPair() {
            int found = -1;
            int widest = -1;
            for (int a = 0; a < towns; a++) {
                for (int b = a + 1; b < towns; b++) {
                    if (!ways.joins(a, b) || isTold(a, b)) {
                        continue;
                    }
                    int width = widthOf(a, b);
                    if (width > widest) {
                        widest = width;
                        found = a * MAX_TOWNS + b;
                    }
                }
            }
            return found;
        }

        private boolean isTold(int a, int b) {
            for (int k = 0; k < hours.size; k++) {
                if (bitOf(counted, k) == 1 && hours.otherEnd(k, a) == b) {
                    return true;
                }
            }
            return false;
        }

        int heapCount() {
            int heaps = 0;
            for (int t = 0; t < towns; t++) {
                boolean isFirst = true;
                for (int s = 0; s < t; s++) {
                    isFirst = isFirst && !ways.joins(s, t);
                }
                heaps += isFirst ? 1 : 0;
            }
            return heaps;
        }

        void layRoads() {
            roadCount = 0;
            for (int a = 0; a < towns; a++) {
                for (int b = a + 1; b < towns; b++) {
                    if (ways.joins(a, b) && !isMadeByOthers(a, b) && roadCount < MAX_PAIRS) {
                        less[roadCount] = a;
                        greater[roadCount] = b;
                        roadCount++;
                    }
                }
            }
        }

        private boolean isMadeByOthers(int a, int b) {
            int straight = ways.minutes(a, b);
            for (int t = 0; t < towns; t++) {
                if (t != a && t != b && ways.joins(a, t)
                    && ways.minutes(a, t) + ways.minutes(t, b) == straight) {
                    return true;
                }
            }
            return false;
        }

        int roadMinutes(int k) {
            return ways.minutes(less[k], greater[k]);
        }

        boolean joinsThree(int a, int b, int c) {
            return ways.joins(a, b) && ways.joins(a, c);
        }

        /** The first four TOWNS that bar a TREE as one number, below 0 if none do. */
        int fourThatBarTree() {
            for (int a = 0; a < towns; a++) {
                for (int b = a + 1; b < towns; b++) {
                    for (int c = b + 1; c < towns; c++) {
                        for (int d = c + 1; d < towns; d++) {
                            if (!areOfTree(a, b, c, d)) {
                                return 512 * a + 64 * b + 8 * c + d;
                            }
                        }
                    }
                }
            }
            return -1;
        }

        private boolean areOfTree(int a, int b, int c, int d) {
            int x = ways.minutes(a, b) + ways.minutes(c, d);
            int y = ways.minutes(a, c) + ways.minutes(b, d);
            int z = ways.minutes(a, d) + ways.minutes(b, c);
            int top = Math.max(x, Math.max(y, z));
            return (x == top ? 1 : 0) + (y == top ? 1 : 0) + (z == top ? 1 : 0) >= 2;
        }
    }

    /** A town that nobody names, set by how far three named ones are from each other. */
    private static final class Corner {
        private static final int NOT_SET = -1;

        private final int[] far = new int[MAX_TOWNS];
        private int roadsStoodFor;
        private int gain;
        private int bestGain;
        private int bestTowns;

        /** False if the three, who are joined, set no corner. */
        boolean setBy(Land land, int a, int b, int c) {
            int ab = land.ways.minutes(a, b);
            int ac = land.ways.minutes(a, c);
            int bc = land.ways.minutes(b, c);
            if ((ab + ac + bc) % 2 != 0 || ab + ac < bc || ab + bc < ac || ac + bc < ab) {
                return false;
            }
            for (int t = 0; t < MAX_TOWNS; t++) {
                far[t] = NOT_SET;
            }
            far[a] = (ab + ac - bc) / 2;
            far[b] = (ab + bc - ac) / 2;
            far[c] = (ac + bc - ab) / 2;
            for (int t = 0; t < land.towns; t++) {
                if (far[t] == NOT_SET && land.ways.joins(a, t)) {
                    far[t] = nearestThatFits(land.ways, t);
                }
            }
            weigh(land);
            return true;
        }

        private int nearestThatFits(Ways ways, int town) {
            int found = 0;
            for (int t = 0; t < MAX_TOWNS; t++) {
                if (far[t] != NOT_SET) {
                    found = Math.max(found, ways.minutes(t, town) - far[t]);
                }
            }
            return found;
        }

        private void weigh(Land land) {
            int ends = 0;
            roadsStoodFor = 0;
            for (int k = 0; k < land.roadCount; k++) {
                int a = land.less[k];
                int b = land.greater[k];
                if (far[a] != NOT_SET && far[b] != NOT_SET
                    && far[a] + far[b] == land.roadMinutes(k)) {
                    roadsStoodFor++;
                    ends |= 1 << a | 1 << b;
                }
            }
            gain = roadsStoodFor - Integer.bitCount(ends);
        }

        void setBest(Land land) {
            bestGain = 0;
            bestTowns = 0;
            for (int a = 0; a < land.towns; a++) {
                for (int b = a + 1; b < land.towns; b++) {
                    for (int c = b + 1; c < land.towns; c++) {
                        if (land.joinsThree(a, b, c) && setBy(land, a, b, c) && gain > bestGain) {
                            bestGain = gain;
                            bestTowns = 64 * a + 8 * b + c;
                        }
                    }
                }
            }
        }
    }

    /**
     * Finds the fewest of some things that must go. What a set lacks is remembered, so that most
     * sets are refused without a land being measured for them.
     */
    private abstract static class Search {
        /** What lackOf answers if no more things that go could mend it. */
        static final int HOPELESS = -1;
        private static final int MEMORY = 32;
        private static final int NOT_FOUND = 32;

        private final int[] needed = new int[MEMORY];
        private final int[] hopeless = new int[MEMORY];
        private int neededCount;
        private int hopelessCount;
        private int fewest;
        private int leastBits;
        private int rivals;

        /** 0 if the set does, HOPELESS, or things of which at least one must go too. */
        abstract int lackOf(int set);

        void searchSubsets(int pool) {
            neededCount = 0;
            hopelessCount = 0;
            fewest = NOT_FOUND;
            leastBits = 0;
            rivals = 0;
            int sets = 1 << Math.min(Integer.bitCount(pool), MAX_SEARCHED);
            int set = 0;
            for (int i = 0; i < sets && fewest > 0; i++) {
                if (Integer.bitCount(set) <= fewest && mayDo(set)) {
                    learn(set, lackOf(set));
                }
                // the next greater number whose bits are all of the pool
                set = set - pool & pool;
            }
        }

        private boolean mayDo(int set) {
            for (int i = 0; i < neededCount; i++) {
                if ((set & needed[i]) == 0) {
                    return false;
                }
            }
            for (int i = 0; i < hopelessCount; i++) {
                if ((set & hopeless[i]) == hopeless[i]) {
                    return false;
                }
            }
            return true;
        }

        private void learn(int set, int lack) {
            if (lack == 0) {
                keep(set);
            } else if (lack == HOPELESS && hopelessCount < MEMORY) {
                hopeless[hopelessCount] = set;
                hopelessCount++;
            } else if (lack != HOPELESS && neededCount < MEMORY) {
                needed[neededCount] = lack;
                neededCount++;
            }
        }

        private void keep(int set) {
            int size = Integer.bitCount(set);
            if (size < fewest) {
                fewest = size;
                leastBits = set;
                rivals = 0;
            }
            rivals++;
        }

        int found(int what) {
            if (fewest == NOT_FOUND) {
                return NONE;
            }
            return what == 0 ? fewest : what == 1 ? leastBits : rivals;
        }
    }

    /** The fewest HOURS, or WRITERS, to doubt so that a land can be. */
    private static final class DoubtSearch extends Search {
        private final Land trial;
        /** For each thing to doubt the HOURS that go with it. */
        private final int[] goesWith = new int[MAX_HOURS];
        private Hours hours;
        private int counted;
        private int towns;

        DoubtSearch(Land trial) {
            this.trial = trial;
            hours = trial.hours;
        }

        void searchHours(Hours toldHours, int countedBits, int townCount) {
            prepare(toldHours, countedBits, townCount);
            for (int k = 0; k < MAX_HOURS; k++) {
                goesWith[k] = counted & 1 << k;
            }
            searchSubsets(counted);
        }

        void searchWriters(Hours toldHours, int countedBits, int townCount) {
            prepare(toldHours, countedBits, townCount);
            int pool = 0;
            for (int w = 0; w < MAX_HOURS; w++) {
                goesWith[w] = isWriter(w) ? counted & hours.writtenBy(w) : 0;
                pool |= goesWith[w] == 0 ? 0 : 1 << w;
            }
            searchSubsets(pool);
        }

        private void prepare(Hours toldHours, int countedBits, int townCount) {
            hours = toldHours;
            counted = countedBits;
            towns = townCount;
        }

        int lackOf(int set) {
            int stay = counted;
            for (int i = 0; i < MAX_HOURS; i++) {
                if (bitOf(set, i) == 1) {
                    stay &= ~goesWith[i];
                }
            }
            trial.survey(hours, stay, towns);
            trial.layRow();
            int quarrel = trial.quarrel();
            int lack = 0;
            for (int i = 0; i < MAX_HOURS; i++) {
                lack |= (goesWith[i] & quarrel) == 0 ? 0 : 1 << i;
            }
            return lack;
        }
    }

    /** The fewest ROADS of summer that are shut in winter. */
    private static final class ShutSearch extends Search {
        private final Land summer;
        private final Ways ways = new Ways();
        private int winterHours;

        ShutSearch(Land summer) {
            this.summer = summer;
        }

        void surveySummer(Hours hours, int townCount) {
            summer.survey(hours, hours.countedIn(SUMMER), townCount);
            summer.layRoads();
            winterHours = hours.toldForWinterAlone();
        }

        void searchRoads() {
            searchSubsets((1 << Math.min(summer.roadCount, MAX_SEARCHED)) - 1);
        }

        int lackOf(int set) {
            measureWithout(set);
            Hours hours = summer.hours;
            int tooShort = -1;
            for (int k = 0; k < hours.size; k++) {
                if (bitOf(winterHours, k) == 0) {
                    continue;
                }
                int a = hours.fact(k, Hours.FIRST);
                int b = hours.fact(k, Hours.SECOND);
                // ways only grow by shutting more
                if (!ways.joins(a, b) || ways.minutes(a, b) > hours.fact(k, Hours.MOST)) {
                    return HOPELESS;
                }
                if (ways.minutes(a, b) < hours.fact(k, Hours.LEAST)) {
                    tooShort = k;
                }
            }
            return tooShort < 0 ? 0 : roadsOfWay(set, tooShort);
        }

        private void measureWithout(int set) {
            ways.clear(summer.towns);
            for (int k = 0; k < summer.roadCount; k++) {
                if (bitOf(set, k) == 0) {
                    ways.join(summer.less[k], summer.greater[k], summer.roadMinutes(k));
                }
            }
            ways.settle();
        }

        private int roadsOfWay(int set, int hour) {
            int at = summer.hours.fact(hour, Hours.FIRST);
            int goal = summer.hours.fact(hour, Hours.SECOND);
            int bits = 0;
            for (int i = 0; i < MAX_TOWNS && at != goal; i++) {
                int step = stepToward(set, at, goal);
                if (step < 0) {
                    break;
                }
                bits |= 1 << step;
                at = otherEnd(step, at);
            }
            return bits;
        }

        private int stepToward(int set, int at, int goal) {
            for (int k = 0; k < summer.roadCount; k++) {
                int next = otherEnd(k, at);
                if (bitOf(set, k) == 0 && next >= 0
                    && ways.leadsOn(at, next, goal, summer.roadMinutes(k))) {
                    return k;
                }
            }
            return -1;
        }

        private int otherEnd(int k, int town) {
            if (summer.less[k] == town) {
                return summer.greater[k];
            }
            return summer.greater[k] == town ? summer.less[k] : -1;
        }
    }

    /** THE NET: roads by hand. */
    private static final class Net {
        private final Ways ways = new Ways();
        private final int[] roads = new int[MAX_TOWNS * MAX_TOWNS];
        private int towns;

        void clear(int townCount) {
            towns = townCount;
            for (int i = 0; i < roads.length; i++) {
                roads[i] = 0;
            }
        }

        /** The ways follow at the next measure, once for many roads. */
        void put(int a, int b, int minutes) {
            roads[a * MAX_TOWNS + b] = minutes;
            roads[b * MAX_TOWNS + a] = minutes;
        }

        int roadOf(int a, int b) {
            return roads[a * MAX_TOWNS + b];
        }

        void measure() {
            ways.clear(towns);
            for (int a = 0; a < towns; a++) {
                for (int b = a + 1; b < towns; b++) {
                    if (roadOf(a, b) > 0) {
                        ways.join(a, b, roadOf(a, b));
                    }
                }
            }
            ways.settle();
        }

        int roadCount() {
            int found = 0;
            for (int a = 0; a < towns; a++) {
                for (int b = a + 1; b < towns; b++) {
                    found += roadOf(a, b) > 0 ? 1 : 0;
                }
            }
            return found;
        }

        int countAmiss(Hours hours, int counted) {
            int found = 0;
            for (int k = 0; k < hours.size; k++) {
                found += bitOf(counted, k) == 1 && isAmiss(hours, k) ? 1 : 0;
            }
            return found;
        }

        int firstAmiss(Hours hours, int counted) {
            for (int k = 0; k < hours.size; k++) {
                if (bitOf(counted, k) == 1 && isAmiss(hours, k)) {
                    return k;
                }
            }
            return NONE;
        }

        int greatestMiss(Hours hours, int counted) {
            int found = 0;
            for (int k = 0; k < hours.size; k++) {
                if (bitOf(counted, k) == 1 && hasWay(hours, k)) {
                    found = Math.max(found, missOf(hours, k));
                }
            }
            return found;
        }

        private boolean isAmiss(Hours hours, int k) {
            return !hasWay(hours, k) || missOf(hours, k) > 0;
        }

        private boolean hasWay(Hours hours, int k) {
            return ways.joins(hours.fact(k, Hours.FIRST), hours.fact(k, Hours.SECOND));
        }

        private int missOf(Hours hours, int k) {
            return hours.missOf(k,
                ways.minutes(hours.fact(k, Hours.FIRST), hours.fact(k, Hours.SECOND)));
        }

        /**
         * A road that is not shorter than some way over a third TOWN can go, and since that way's
         * own roads are all shorter, whichever went ahead of it left such a way standing.
         */
        int countNeedless() {
            int found = 0;
            for (int a = 0; a < towns; a++) {
                for (int b = a + 1; b < towns; b++) {
                    found += roadOf(a, b) > 0 && isNeedless(a, b) ? 1 : 0;
                }
            }
            return found;
        }

        private boolean isNeedless(int a, int b) {
            for (int t = 0; t < towns; t++) {
                if (t != a && t != b && ways.joins(a, t) && ways.joins(t, b)
                    && ways.minutes(a, t) + ways.minutes(t, b) <= roadOf(a, b)) {
                    return true;
                }
            }
            return false;
        }
    }

    /** Rows of numbers of one lane each. The FAULTS are looked for ahead, never run into. */
    private static final class Sheets {
        static final int MAX_CELLS = 40;
        static final int NULL = 1;
        static final int INDEX = 2;
        static final int CAST = 3;
        static final int SIZE = 4;
        private static final int SHEETS = 4;
        private static final int NOTHING = -1;
        private static final int BYTES = 0;
        private static final int SHORTS = 1;
        private static final int INTS = 2;
        private static final int FROM_TWENTY = 20;

        private final int[] cells = new int[SHEETS * MAX_CELLS];
        private final int[] lanes = new int[SHEETS];
        private final int[] sizes = new int[SHEETS];

        Sheets() {
            for (int k = 0; k < SHEETS; k++) {
                lanes[k] = NOTHING;
            }
        }

        static boolean isSheet(int k) {
            return k >= 0 && k < SHEETS;
        }

        static boolean isLane(int lane) {
            return lane >= BYTES && lane <= INTS;
        }

        void renew(int k, int lane, int n) {
            lanes[k] = lane;
            sizes[k] = n;
            for (int i = 0; i < MAX_CELLS; i++) {
                cells[k * MAX_CELLS + i] = 0;
            }
        }

        boolean isNothing(int k) {
            return lanes[k] == NOTHING;
        }

        boolean isOfLane(int k, int lane) {
            return lanes[k] == lane;
        }

        int sizeOf(int k) {
            return sizes[k];
        }

        boolean hasCell(int k, int i) {
            return i >= 0 && i < sizes[k];
        }

        void put(int k, int i, int v) {
            int kept = lanes[k] == BYTES ? (byte) v : lanes[k] == SHORTS ? (short) v : v;
            cells[k * MAX_CELLS + i] = kept;
        }

        int cellOf(int k, int i) {
            return cells[k * MAX_CELLS + i];
        }

        /** 0 if as many CELLS from f on are all roads. */
        int refusalOfRoads(int k, int f, int many) {
            for (int i = 0; i < many; i++) {
                if (!hasCell(k, f + i)) {
                    return -FROM_TEN - INDEX;
                }
                int minutes = cellOf(k, f + i);
                if (minutes < 0 || minutes > MAX_MINUTES) {
                    return -FROM_TWENTY - i;
                }
            }
            return 0;
        }
    }
}
