/**
 * A house of gold beaters. The words in capitals, and the numbers of the promises,
 * are those of the project's document.
 */
public final class GoldLeaves {
    public static final int NONE = -1;

    private static final int NOTHING = -1_000_000_000;

    // The codes that a call is REFUSED by.
    private static final int BAD_NUMBER = -1;
    private static final int NO_SUCH = -2;
    private static final int CANNOT_BE = -3;
    private static final int NO_ROOM = -5;
    private static final int BAD_TEXT = -6;

    private static final int MAX_BARS = 10;
    private static final int MAX_PIECES = 120;
    private static final int MAX_BAR_GRAINS = 1_000_000;
    private static final int METALS = 3;
    private static final int WHOLE = 1000;

    private static final int MAX_TAPE = 300;
    private static final int FED_BYTES = 20;
    private static final int MAX_COLOURS = 10;
    private static final int MAX_TESTS = 30;

    private static final int MAX_SKINS = 60;
    private static final int MAX_DRYNESS = 100;
    private static final int MAX_AGE_ASKED = 100;
    private static final int MAX_PACK_SKINS = 20;
    private static final int MAX_PACKS_ASKED = 20;

    private static final int MAX_AREA = 10_000;
    private static final int MAX_BOOK_LEAVES = 50;
    private static final int MAX_SURFACE_SIDE = 10_000;
    private static final int MAX_LEAF_SIDE = 200;

    private static final int DOORS = 4;
    private static final int MAX_PASSED = 200;
    private static final int MAX_PASSED_GRAINS = 1_000_000;
    private static final int MAX_FOUND = 60;
    private static final int MAX_FOUND_GRAINS = 100_000_000;
    private static final int LAST_HOUR = 1000;

    private final Stock stock = new Stock();
    private final Bindery bindery = new Bindery();
    private final ColourReader reader = new ColourReader();
    private final Tape tape = reader.tape;
    private final SkinChest chest = new SkinChest();
    private final Gatehouse gates = new Gatehouse();
    // Two palettes change places, so that a TEXT with a FAULT leaves the COLOURS as they were.
    private Palette palette = new Palette();
    private Palette draft = new Palette();
    private int faultPlace = NONE;
    private int refusal = 0;

    public GoldLeaves() {
    }

    public int bar(int grains, int gold, int silver) {
        return noted(stock.addBar(grains, gold, silver));
    }

    public int cut(int piece, int n) {
        return noted(stock.cutOff(piece, n));
    }

    public int melt(int a, int b) {
        return noted(stock.meltInto(a, b));
    }

    public int weight(int piece) {
        Piece found = stock.living(piece);
        return found == null ? NONE : found.weight;
    }

    public int from(int piece, int bar) {
        Piece found = stock.living(piece);
        if (found == null || bar < 0 || bar >= stock.barCount) {
            return NONE;
        }
        return found.grains[bar];
    }

    public long part(int piece, int metal) {
        Piece found = stock.living(piece);
        if (found == null || !within(metal, 0, METALS - 1)) {
            return NONE;
        }
        return stock.metalIn(found, metal);
    }

    public int feed(int a, int b, int c, int d, int e) {
        if (tape.length > MAX_TAPE - FED_BYTES) {
            return NONE;
        }
        tape.appendFour(a);
        tape.appendFour(b);
        tape.appendFour(c);
        tape.appendFour(d);
        tape.appendFour(e);
        return tape.length;
    }

    public int end(int n) {
        if (n < 0 || n > tape.length) {
            return NONE;
        }
        tape.length = n;
        return n;
    }

    public int colours() {
        boolean good = reader.readInto(draft);
        faultPlace = good ? NONE : tape.start;
        tape.length = 0;
        if (!good) {
            return noted(BAD_TEXT);
        }
        Palette old = palette;
        palette = draft;
        draft = old;
        return noted(palette.size);
    }

    public int fault() {
        return faultPlace;
    }

    public int colour(int piece) {
        Piece found = stock.living(piece);
        return found == null ? NONE : palette.firstThatSuits(found, stock);
    }

    public int skin(int dryness) {
        return noted(chest.addSkin(dryness));
    }

    public int dry(int skin, int dryness) {
        return noted(chest.changeDryness(skin, dryness));
    }

    public int age(int skin) {
        return chest.has(skin) ? chest.ages[skin] : NONE;
    }

    public int pack(int sort, int skins, int ageFrom, int ageTo, int dryFrom, int dryTo) {
        PackNeed need = chest.needOf(sort);
        if (need == null || !within(skins, 1, MAX_PACK_SKINS)
                || !isSpan(ageFrom, ageTo, MAX_AGE_ASKED) || !isSpan(dryFrom, dryTo, MAX_DRYNESS)) {
            return noted(BAD_NUMBER);
        }
        need.skins = skins;
        need.ageFrom = ageFrom;
        need.ageTo = ageTo;
        need.dryFrom = dryFrom;
        need.dryTo = dryTo;
        return noted(0);
    }

    public int beat(int sort, int packs) {
        return noted(chest.beatPacks(sort, packs));
    }

    public int leaf(int piece, int area) {
        return noted(bindery.makeLeaf(stock.living(piece), area));
    }

    public int flatter(int a, int b) {
        Piece first = stock.living(a);
        Piece second = stock.living(b);
        if (first == null || second == null || !first.isLeaf() || !second.isLeaf()) {
            return NO_SUCH;
        }
        // AREA through WEIGHT of both, compared crosswise to stay in whole numbers.
        return Long.compare((long) first.area * second.weight, (long) second.area * first.weight);
    }

    public int bind(int n) {
        return noted(bindery.bindBooks(stock, n));
    }

    public int book(int piece) {
        Piece found = stock.living(piece);
        return found == null ? NONE : found.book;
    }

    public long surface(int a, int b, int s, int o) {
        if (!within(a, 1, MAX_SURFACE_SIDE) || !within(b, 1, MAX_SURFACE_SIDE)
                || !within(s, 1, MAX_LEAF_SIDE) || !within(o, 0, s - 1)) {
            return NONE;
        }
        return leavesAlong(a, s, s - o) * leavesAlong(b, s, s - o);
    }

    public int pass(int door, int grains, int hour, int known) {
        return noted(gates.addPassed(door, grains, hour, known));
    }

    public int held(int room, int hour, int known) {
        if (!within(room, 0, DOORS - 1) || !isHour(hour) || !isHour(known)) {
            return NOTHING;
        }
        return gates.inRoom(room, hour, known);
    }

    public int find(int room, int hour, int grains) {
        return noted(gates.addFound(room, hour, grains));
    }

    public int missing(int room, int known) {
        if (!within(room, 0, DOORS - 1) || !isHour(known)) {
            return NONE;
        }
        return gates.firstMissing(room, known);
    }

    public int count(int what) {
        switch (what) {
            case 0:
                return stock.barCount;
            case 1:
                return stock.livingPieces();
            case 2:
                return stock.pieceCount;
            case 3:
                return bindery.leafCount;
            case 4:
                return bindery.bookCount;
            case 5:
                return chest.size;
            case 6:
                return palette.size;
            case 7:
                return stock.allGrains();
            case 8:
                return tape.length;
            default:
                return NONE;
        }
    }

    public int status() {
        return refusal;
    }

    /** Keeps what a call was REFUSED by; no such call answers below 0 when it was not. */
    private int noted(int answer) {
        refusal = answer < 0 ? answer : 0;
        return answer;
    }

    private static boolean within(int value, int low, int high) {
        return value >= low && value <= high;
    }

    private static boolean isSpan(int low, int high, int limit) {
        return low >= 0 && low <= high && high <= limit;
    }

    private static boolean isHour(int value) {
        return within(value, 0, LAST_HOUR);
    }

    private static long leavesAlong(int side, int leafSide, int step) {
        if (side <= leafSide || step < 1) {
            return 1;
        }
        return 1 + (side - leafSide + step - 1) / step;
    }

    /** A PIECE, its grains told apart by the BAR that they are from. */
    private static final class Piece {
        final int[] grains = new int[MAX_BARS];
        int weight = 0;
        // 0 as long as the PIECE is no LEAF.
        int area = 0;
        int book = NONE;
        boolean gone = false;

        boolean isLeaf() {
            return area > 0;
        }
    }

    /** All BARS and PIECES. */
    private static final class Stock {
        private final Piece[] pieces = new Piece[MAX_PIECES];
        private final int[][] thousandths = new int[METALS][MAX_BARS];
        private final long[] rests = new long[MAX_BARS];
        int barCount = 0;
        int pieceCount = 0;

        /** The PIECE of that number; null if there is none or it is gone. */
        Piece living(int number) {
            if (number < 0 || number >= pieceCount) {
                return null;
            }
            Piece piece = pieces[number];
            return piece == null || piece.gone ? null : piece;
        }

        int addBar(int grains, int gold, int silver) {
            if (!within(grains, 1, MAX_BAR_GRAINS) || !within(gold, 0, WHOLE)
                    || !within(silver, 0, WHOLE - gold)) {
                return BAD_NUMBER;
            }
            if (barCount >= MAX_BARS || pieceCount >= MAX_PIECES) {
                return NO_ROOM;
            }
            thousandths[0][barCount] = gold;
            thousandths[1][barCount] = silver;
            thousandths[2][barCount] = WHOLE - gold - silver;
            Piece fresh = new Piece();
            fresh.grains[barCount] = grains;
            fresh.weight = grains;
            barCount++;
            return addPiece(fresh);
        }

        int cutOff(int number, int n) {
            if (n < 1) {
                return BAD_NUMBER;
            }
            Piece old = living(number);
            if (old == null) {
                return NO_SUCH;
            }
            if (n >= old.weight || old.isLeaf()) {
                return CANNOT_BE;
            }
            if (pieceCount >= MAX_PIECES) {
                return NO_ROOM;
            }
            Piece fresh = new Piece();
            giveRests(fresh, n - giveWholeShares(old, fresh, n));
            for (int bar = 0; bar < MAX_BARS; bar++) {
                old.grains[bar] -= fresh.grains[bar];
            }
            fresh.weight = n;
            old.weight -= n;
            return addPiece(fresh);
        }

        /** Gives each BAR's share, cut, keeps the rests, and answers how many grains were given. */
        private int giveWholeShares(Piece old, Piece fresh, int n) {
            int given = 0;
            // No PIECE weighs less than a grain; the divisor is held to that here, too.
            long whole = Math.max(old.weight, 1);
            for (int bar = 0; bar < MAX_BARS; bar++) {
                long product = (long) old.grains[bar] * n;
                fresh.grains[bar] = (int) (product / whole);
                rests[bar] = product % whole;
                given += fresh.grains[bar];
            }
            return given;
        }

        private void giveRests(Piece fresh, int left) {
            for (int given = 0; given < left && given < MAX_BARS; given++) {
                int bar = greatestRest();
                fresh.grains[bar]++;
                rests[bar] = 0;
            }
        }

        /** Of alike rests the lower BAR's; always a BAR's number. */
        private int greatestRest() {
            int best = 0;
            for (int bar = 1; bar < MAX_BARS; bar++) {
                if (rests[bar] > rests[best]) {
                    best = bar;
                }
            }
            return best;
        }

        int meltInto(int a, int b) {
            Piece pot = living(a);
            Piece lump = living(b);
            if (pot == null || lump == null) {
                return NO_SUCH;
            }
            if (a == b || pot.isLeaf() || lump.isLeaf()) {
                return CANNOT_BE;
            }
            for (int bar = 0; bar < MAX_BARS; bar++) {
                pot.grains[bar] += lump.grains[bar];
            }
            pot.weight += lump.weight;
            lump.gone = true;
            return pot.weight;
        }

        /** That metal's part, in thousandths of a grain; only for metals that there are. */
        long metalIn(Piece piece, int metal) {
            if (!within(metal, 0, METALS - 1)) {
                return 0;
            }
            long sum = 0;
            for (int bar = 0; bar < MAX_BARS; bar++) {
                sum += (long) piece.grains[bar] * thousandths[metal][bar];
            }
            return sum;
        }

        int livingPieces() {
            int still = 0;
            for (int number = 0; number < pieceCount; number++) {
                if (living(number) != null) {
                    still++;
                }
            }
            return still;
        }

        int allGrains() {
            int sum = 0;
            for (int number = 0; number < pieceCount; number++) {
                Piece piece = living(number);
                if (piece != null) {
                    sum += piece.weight;
                }
            }
            return sum;
        }

        private int addPiece(Piece fresh) {
            if (pieceCount >= MAX_PIECES) {
                return NO_ROOM;
            }
            pieces[pieceCount] = fresh;
            pieceCount++;
            return pieceCount - 1;
        }
    }

    /** LEAVES and BOOKS. */
    private static final class Bindery {
        int leafCount = 0;
        int bookCount = 0;
        private int boundLeaves = 0;

        /** A null stands for a PIECE that there is not. */
        int makeLeaf(Piece piece, int area) {
            if (!within(area, 1, MAX_AREA)) {
                return BAD_NUMBER;
            }
            if (piece == null) {
                return NO_SUCH;
            }
            if (piece.isLeaf()) {
                return CANNOT_BE;
            }
            piece.area = area;
            leafCount++;
            return leafCount;
        }

        int bindBooks(Stock stock, int n) {
            if (!within(n, 1, MAX_BOOK_LEAVES)) {
                return BAD_NUMBER;
            }
            int fresh = (leafCount - boundLeaves) / n;
            int bound = 0;
            for (int number = 0; number < stock.pieceCount && bound < fresh * n; number++) {
                Piece piece = stock.living(number);
                if (piece != null && piece.isLeaf() && piece.book == NONE) {
                    piece.book = bookCount + bound / n;
                    bound++;
                }
            }
            boundLeaves += bound;
            bookCount += fresh;
            return fresh;
        }
    }

    /** The TAPE, and the TOKEN of it that is looked at: from start on, stop not included. */
    private static final class Tape {
        static final int END = 0;
        static final int WORD = 1;
        static final int NUMBER = 2;
        static final int MARK = 3;

        private static final int BLANK = 32;

        private final int[] bytes = new int[MAX_TAPE];
        int length = 0;
        int kind = END;
        int start = 0;
        int stop = 0;

        void appendFour(int number) {
            for (int shift = 24; shift >= 0; shift -= 8) {
                if (length < MAX_TAPE) {
                    bytes[length] = (number >>> shift) & 255;
                    length++;
                }
            }
        }

        void toFirstToken() {
            stop = 0;
            toNextToken();
        }

        /** Behind the last TOKEN comes the end, whose place is the TEXT's length. */
        void toNextToken() {
            start = stop;
            while (start < length && bytes[start] == BLANK) {
                start++;
            }
            if (start >= length) {
                kind = END;
                stop = start;
                return;
            }
            kind = kindOf(bytes[start]);
            stop = start + 1;
            while (kind != MARK && stop < length && kindOf(bytes[stop]) == kind) {
                stop++;
            }
        }

        private static int kindOf(int value) {
            if (within(value, 'a', 'z')) {
                return WORD;
            }
            return within(value, '0', '9') ? NUMBER : MARK;
        }

        boolean isMark(char mark) {
            return kind == MARK && bytes[start] == mark;
        }

        boolean isWord(String word) {
            if (kind != WORD || stop - start != word.length()) {
                return false;
            }
            for (int i = 0; i < word.length(); i++) {
                if (bytes[start + i] != word.charAt(i)) {
                    return false;
                }
            }
            return true;
        }

        /** Whether the TOKEN is the same row of bytes as an earlier one. */
        boolean isSameAs(int from, int to) {
            if (from < 0 || to > start || stop - start != to - from) {
                return false;
            }
            for (int i = 0; i < to - from; i++) {
                if (bytes[start + i] != bytes[from + i]) {
                    return false;
                }
            }
            return true;
        }

        /** The TOKEN's number; NONE if it is no number up to 1000. */
        int numberToThousand() {
            if (kind != NUMBER) {
                return NONE;
            }
            int value = 0;
            for (int i = start; i < stop; i++) {
                value = value * 10 + bytes[i] - '0';
                if (value > WHOLE) {
                    return NONE;
                }
            }
            return value;
        }
    }

    /** COLOURS, each with its TESTS. */
    private static final class Palette {
        int size = 0;
        private int tests = 0;
        private final int[] owners = new int[MAX_TESTS];
        private final int[] metals = new int[MAX_TESTS];
        private final int[] lows = new int[MAX_TESTS];
        private final int[] highs = new int[MAX_TESTS];

        void empty() {
            size = 0;
            tests = 0;
        }

        boolean hasRoomForTest() {
            return tests < MAX_TESTS;
        }

        /** A TEST of the COLOUR that is the latest once it is counted. */
        void addTest(int metal, int low, int high) {
            if (tests < MAX_TESTS) {
                owners[tests] = size;
                metals[tests] = metal;
                lows[tests] = low;
                highs[tests] = high;
                tests++;
            }
        }

        int firstThatSuits(Piece piece, Stock stock) {
            for (int number = 0; number < size; number++) {
                if (allHold(number, piece, stock)) {
                    return number;
                }
            }
            return NONE;
        }

        private boolean allHold(int number, Piece piece, Stock stock) {
            for (int test = 0; test < tests; test++) {
                if (owners[test] == number && !holds(test, piece, stock)) {
                    return false;
                }
            }
            return true;
        }

        private boolean holds(int test, Piece piece, Stock stock) {
            long part = stock.metalIn(piece, metals[test]);
            return (long) lows[test] * piece.weight <= part && part <= (long) highs[test] * piece.weight;
        }
    }

    /** Reads COLOURS off the TAPE; where it stops without success, the TAPE's TOKEN is the FAULT. */
    private static final class ColourReader {
        final Tape tape = new Tape();
        private final int[] nameStarts = new int[MAX_COLOURS];
        private final int[] nameStops = new int[MAX_COLOURS];

        boolean readInto(Palette palette) {
            palette.empty();
            tape.toFirstToken();
            if (tape.kind == Tape.END) {
                return true;
            }
            for (int turn = 0; turn <= MAX_COLOURS; turn++) {
                if (!readColour(palette)) {
                    return false;
                }
                if (tape.kind == Tape.END) {
                    return true;
                }
                if (!takeMark(';')) {
                    return false;
                }
            }
            return false;
        }

        private boolean readColour(Palette palette) {
            if (!takeName(palette.size) || !takeMark(':')) {
                return false;
            }
            for (int turn = 0; turn <= MAX_TESTS; turn++) {
                if (!readTest(palette)) {
                    return false;
                }
                if (!tape.isMark(',')) {
                    palette.size++;
                    return true;
                }
                tape.toNextToken();
            }
            return false;
        }

        private boolean takeName(int known) {
            if (known >= MAX_COLOURS || tape.kind != Tape.WORD) {
                return false;
            }
            for (int i = 0; i < known; i++) {
                if (tape.isSameAs(nameStarts[i], nameStops[i])) {
                    return false;
                }
            }
            nameStarts[known] = tape.start;
            nameStops[known] = tape.stop;
            tape.toNextToken();
            return true;
        }

        private boolean readTest(Palette palette) {
            int metal = metalTold();
            if (!palette.hasRoomForTest() || metal == NONE) {
                return false;
            }
            tape.toNextToken();
            int low = tape.numberToThousand();
            if (low == NONE) {
                return false;
            }
            tape.toNextToken();
            if (!tape.isWord("to")) {
                return false;
            }
            tape.toNextToken();
            int high = tape.numberToThousand();
            if (high == NONE || high < low) {
                return false;
            }
            tape.toNextToken();
            palette.addTest(metal, low, high);
            return true;
        }

        private int metalTold() {
            if (tape.isWord("gold")) {
                return 0;
            }
            if (tape.isWord("silver")) {
                return 1;
            }
            return tape.isWord("copper") ? 2 : NONE;
        }

        private boolean takeMark(char mark) {
            if (!tape.isMark(mark)) {
                return false;
            }
            tape.toNextToken();
            return true;
        }
    }

    /** What PACKS of one sort need. */
    private static final class PackNeed {
        int skins = 1;
        int ageFrom = 0;
        int ageTo = MAX_AGE_ASKED;
        int dryFrom = 0;
        int dryTo = MAX_DRYNESS;
    }

    /** All SKINS, and the sorts of PACKS. */
    private static final class SkinChest {
        private final PackNeed[] needs = new PackNeed[] {new PackNeed(), new PackNeed(), new PackNeed()};
        final int[] ages = new int[MAX_SKINS];
        private final int[] drynesses = new int[MAX_SKINS];
        private final boolean[] chosen = new boolean[MAX_SKINS];
        int size = 0;

        boolean has(int number) {
            return number >= 0 && number < size;
        }

        /** What PACKS of that sort need; null if there is no such sort. */
        PackNeed needOf(int sort) {
            return sort >= 0 && sort < needs.length ? needs[sort] : null;
        }

        int addSkin(int dryness) {
            if (!within(dryness, 0, MAX_DRYNESS)) {
                return BAD_NUMBER;
            }
            if (size >= MAX_SKINS) {
                return NO_ROOM;
            }
            drynesses[size] = dryness;
            size++;
            return size - 1;
        }

        int changeDryness(int number, int dryness) {
            if (!within(dryness, 0, MAX_DRYNESS)) {
                return BAD_NUMBER;
            }
            if (!has(number)) {
                return NO_SUCH;
            }
            int before = drynesses[number];
            drynesses[number] = dryness;
            return before;
        }

        int beatPacks(int sort, int asked) {
            PackNeed need = needOf(sort);
            if (need == null || !within(asked, 0, MAX_PACKS_ASKED)) {
                return BAD_NUMBER;
            }
            int beaten = 0;
            while (beaten < asked && chooseFor(need)) {
                ageChosen();
                beaten++;
            }
            return beaten;
        }

        /** Whether there were SKINS enough; a SKIN grows older only once the PACK is whole. */
        private boolean chooseFor(PackNeed need) {
            for (int number = 0; number < MAX_SKINS; number++) {
                chosen[number] = false;
            }
            for (int taken = 0; taken < need.skins; taken++) {
                int oldest = oldestFor(need);
                if (oldest == NONE) {
                    return false;
                }
                chosen[oldest] = true;
            }
            return true;
        }

        private int oldestFor(PackNeed need) {
            int oldest = NONE;
            for (int number = 0; number < size; number++) {
                if (!chosen[number] && suits(number, need)
                        && (oldest == NONE || ages[number] > ages[oldest])) {
                    oldest = number;
                }
            }
            return oldest;
        }

        private boolean suits(int number, PackNeed need) {
            return within(ages[number], need.ageFrom, need.ageTo)
                    && within(drynesses[number], need.dryFrom, need.dryTo);
        }

        private void ageChosen() {
            for (int number = 0; number < size; number++) {
                if (chosen[number]) {
                    ages[number]++;
                }
            }
        }
    }

    /** What PASSED the DOORS and what was FOUND behind them. */
    private static final class Gatehouse {
        private final int[] doors = new int[MAX_PASSED];
        private final int[] passedGrains = new int[MAX_PASSED];
        private final int[] passedHours = new int[MAX_PASSED];
        private final int[] knownHours = new int[MAX_PASSED];
        private int passed = 0;
        private final int[] rooms = new int[MAX_FOUND];
        private final int[] foundHours = new int[MAX_FOUND];
        private final int[] foundGrains = new int[MAX_FOUND];
        private int found = 0;

        int addPassed(int door, int grains, int hour, int known) {
            if (!within(door, 0, DOORS - 1) || !within(grains, -MAX_PASSED_GRAINS, MAX_PASSED_GRAINS)
                    || !isHour(hour) || !isHour(known)) {
                return BAD_NUMBER;
            }
            if (passed >= MAX_PASSED) {
                return NO_ROOM;
            }
            doors[passed] = door;
            passedGrains[passed] = grains;
            passedHours[passed] = hour;
            knownHours[passed] = known;
            passed++;
            return passed;
        }

        int addFound(int room, int hour, int grains) {
            if (!within(room, 0, DOORS - 1) || !isHour(hour) || !within(grains, 0, MAX_FOUND_GRAINS)) {
                return BAD_NUMBER;
            }
            if (found >= MAX_FOUND) {
                return NO_ROOM;
            }
            rooms[found] = room;
            foundHours[found] = hour;
            foundGrains[found] = grains;
            found++;
            return found;
        }

        /** Behind the last DOOR nothing can have PASSED one more, so that sum is 0 there. */
        int inRoom(int room, int hour, int known) {
            return through(room, hour, known) - through(room + 1, hour, known);
        }

        private int through(int door, int hour, int known) {
            int sum = 0;
            for (int i = 0; i < passed; i++) {
                if (doors[i] == door && passedHours[i] <= hour && knownHours[i] <= known) {
                    sum += passedGrains[i];
                }
            }
            return sum;
        }

        int firstMissing(int room, int known) {
            int first = NONE;
            for (int i = 0; i < found; i++) {
                int hour = foundHours[i];
                if (rooms[i] == room && hour <= known && (first == NONE || hour < first)
                        && foundGrains[i] < inRoom(room, hour, known)) {
                    first = hour;
                }
            }
            return first;
        }
    }
}
