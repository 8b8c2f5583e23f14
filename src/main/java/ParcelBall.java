/** A ball of string from all the parcels; the document's promises are told there, not here. */
public final class ParcelBall {
    private static final int BEYOND = -1000001;
    private static final int FULL = BEYOND - 1;
    private static final int KIND_FINDING = BEYOND - 2;
    private static final int NONE = BEYOND - 3;
    private static final int STATE = BEYOND - 4;
    private static final int MISSING = BEYOND - 5;
    private static final int SIZE = BEYOND - 6;
    private static final int FINDINGS = 7;
    private static final int NO_FINDING = 0;

    private static final int PLACES = 12;
    private static final int MOST_DRAG = 99;
    private static final int MOST_PIECES = 8;
    private static final int MOST_LONG = 99;
    private static final int MOST_KNOTS = 9;
    private static final int MOST_AGE = 9999;
    private static final int MOST_CAME = 9999;
    private static final int LAST_DAY = 99999;
    private static final int MOST_OFF = 99999;

    private static final int PIECE = 0;
    private static final int TICKING = 1;
    private static final int BIRTHDAY = 2;
    private static final int ROW = 3;
    private static final int LETTER = 4;
    private static final int HERS = 5;
    private static final int FUSE = 6;
    private static final int KINDS = 7;
    private static final int[] KIND_ABOVE = {-1, PIECE, PIECE, BIRTHDAY, ROW, PIECE, TICKING};

    private static final int KIND = 0;
    private static final int PLACE = 1;
    private static final int LONG = 2;
    private static final int KNOTS = 3;
    private static final int AGE = 4;
    private static final int CAME = 5;
    private static final int FACTS = 6;
    private static final int PULLS = 6;
    private static final int LASTS = 7;
    private static final int DEEP = 8;
    private static final int FELT = 9;
    private static final int[] FACT_LEAST = {0, 0, 1, 0, 0, 0};
    private static final int[] FACT_MOST =
        {KINDS - 1, PLACES - 1, MOST_LONG, MOST_KNOTS, MOST_AGE, MOST_CAME};

    private static final int SPOTS = 10;
    private static final int NOTHING = -1;
    private static final int SHEETS = 4;
    private static final int MOST_NUMBERS = 40;
    private static final int ANY_PLACE = -1;
    private static final int MOST_BYTES = 120;

    private static final int FAR_AHEAD = 200;

    private final World current = new World();
    private final World trial = new World();
    private final World kept = new World();
    private boolean isKept = false;
    private final Tape tape = new Tape();
    private final TextReader reader = new TextReader(tape, trial);
    private final Sheets sheets = new Sheets();
    private final int[] findingsTold = new int[FINDINGS];

    public ParcelBall() {
    }

    // ---- ball, pieces

    public int ball(int place) {
        if (!isPlace(place)) {
            return finding(BEYOND);
        }
        int before = current.at;
        current.at = place;
        return before;
    }

    public int drag(int v) {
        if (!isWithin(v, 0, MOST_DRAG)) {
            return finding(BEYOND);
        }
        int before = current.drag;
        current.drag = v;
        return before;
    }

    public int wind(int kind, int place) {
        if (!isKind(kind) || !isPlace(place)) {
            return finding(BEYOND);
        }
        if (current.isFull()) {
            return finding(FULL);
        }
        return current.addPiece(kind, place);
    }

    public int of(int piece, int what) {
        if (!current.hasPiece(piece) || !isWithin(what, KIND, FELT)) {
            return finding(BEYOND);
        }
        return current.tell(piece, what);
    }

    public int change(int piece, int what, int v) {
        if (!current.hasPiece(piece) || !isFactValue(what, v)) {
            return finding(BEYOND);
        }
        int before = current.fact(piece, what);
        current.setFact(piece, what, v);
        return before;
    }

    public int lend(int n) {
        if (!isWithin(n, 1, MOST_LONG)) {
            return finding(BEYOND);
        }
        if (current.pieceCount == 0) {
            return finding(STATE);
        }
        return current.cutOutermost(n);
    }

    public int felt(int place) {
        if (!isPlace(place)) {
            return finding(BEYOND);
        }
        return current.feltTo(place);
    }

    // ---- days

    public int go(int n) {
        if (!isWithin(n, 1, 60)) {
            return finding(BEYOND);
        }
        if (current.day > LAST_DAY - n) {
            return finding(STATE);
        }
        current.passDays(n);
        return current.at;
    }

    public int now(int what) {
        switch (what) {
            case 0:
                return current.day;
            case 1:
                return current.at;
            case 2:
                current.weigh();
                return current.up;
            case 3:
                current.weigh();
                return current.down;
            case 4:
                return current.longOutside(NOTHING);
            case 5:
                return current.wentOff;
            case 6:
                return current.placeSet();
            case 7:
                return current.mostFelt();
            default:
                return finding(BEYOND);
        }
    }

    // ---- what will be (nothing changes)

    public int ahead(int piece, int what, int n) {
        boolean isTold = isWithin(what, LONG, CAME) || what == FELT;
        if (!current.hasPiece(piece) || !isTold || !isWithin(n, 0, 100)) {
            return finding(BEYOND);
        }
        trial.becomeBall(current);
        trial.passDays(n);
        return trial.tell(piece, what);
    }

    public int where(int n) {
        if (!isWithin(n, 0, 100)) {
            return finding(BEYOND);
        }
        trial.becomeBall(current);
        trial.passDays(n);
        return trial.at;
    }

    public int when(int place) {
        if (!isPlace(place)) {
            return finding(BEYOND);
        }
        trial.becomeBall(current);
        for (int days = 0; days <= FAR_AHEAD; days++) {
            if (trial.at == place) {
                return days;
            }
            trial.passDay();
        }
        return finding(NONE);
    }

    public int comes(int piece) {
        if (!current.hasPiece(piece)) {
            return finding(BEYOND);
        }
        trial.becomeBall(current);
        for (int days = 1; days <= FAR_AHEAD; days++) {
            trial.passDay();
            if (trial.fact(piece, CAME) > current.fact(piece, CAME)) {
                return days;
            }
        }
        return finding(NONE);
    }

    public int off() {
        trial.becomeBall(current);
        for (int days = 1; days <= FAR_AHEAD; days++) {
            trial.passDay();
            if (trial.wentOff > current.wentOff) {
                return days;
            }
        }
        return finding(NONE);
    }

    // ---- what must be unwound

    public int unwind(int set) {
        if ((set & -(1 << current.pieceCount)) != 0) {
            return finding(BEYOND);
        }
        for (int piece = 0; piece < current.pieceCount; piece++) {
            if ((set >> piece & 1) != 0) {
                return current.longOutside(piece - 1);
            }
        }
        return 0;
    }

    public int had(int v) {
        if (!isWithin(v, 0, 999)) {
            return finding(BEYOND);
        }
        int many = 0;
        for (int piece = current.pieceCount - 1; piece >= 0; piece--) {
            if (current.longOutside(piece - 1) <= v) {
                many++;
            }
        }
        return many;
    }

    // ---- where to, how long

    public int drawTo(int piece, int place, int n) {
        if (!current.hasPiece(piece) || !isPlace(place) || !isWithin(n, 0, 40)) {
            return finding(BEYOND);
        }
        int best = 0;
        int bestDistance = PLACES;
        for (int to = 0; to < PLACES; to++) {
            tryFact(piece, PLACE, to);
            trial.passDays(n);
            int distance = Math.abs(trial.at - place);
            if (distance < bestDistance) {
                best = to;
                bestDistance = distance;
            }
        }
        return best;
    }

    public int longFor(int piece, int place, int n) {
        if (!current.hasPiece(piece) || !isPlace(place) || !isWithin(n, 0, 40)) {
            return finding(BEYOND);
        }
        for (int length = 1; length <= MOST_LONG; length++) {
            tryFact(piece, LONG, length);
            trial.passDays(n);
            if (trial.at == place) {
                return length;
            }
        }
        return finding(NONE);
    }

    public int kindFor(int piece, int n) {
        if (!current.hasPiece(piece) || !isWithin(n, 0, 40)) {
            return finding(BEYOND);
        }
        int best = 0;
        int bestCame = -1;
        for (int kind = 0; kind < KINDS; kind++) {
            tryFact(piece, KIND, kind);
            trial.passDays(n);
            int came = trial.fact(piece, CAME);
            if (came > bestCame) {
                best = kind;
                bestCame = came;
            }
        }
        return best;
    }

    public int dragFor(int place, int n) {
        if (!isPlace(place) || !isWithin(n, 0, 40)) {
            return finding(BEYOND);
        }
        for (int drag = MOST_DRAG; drag >= 0; drag--) {
            trial.becomeBall(current);
            trial.drag = drag;
            trial.passDays(n);
            if (trial.at == place) {
                return drag;
            }
        }
        return finding(NONE);
    }

    public int loosen(int place, int n) {
        if (!isPlace(place) || !isWithin(n, 0, 20)) {
            return finding(BEYOND);
        }
        int sets = 1 << current.pieceCount;
        for (int many = 0; many <= current.pieceCount; many++) {
            for (int set = 0; set < sets; set++) {
                if (Integer.bitCount(set) == many) {
                    trial.becomeBall(current);
                    trial.loose = set;
                    trial.passDays(n);
                    if (trial.at == place) {
                        return set;
                    }
                }
            }
        }
        return finding(NONE);
    }

    // ---- by its ways

    public int fits(int s, int piece) {
        return waysOf(s, piece, PLACE, PLACES);
    }

    public int kinds(int s, int piece) {
        return waysOf(s, piece, KIND, KINDS);
    }

    // ---- parcels

    public int parcels(int n) {
        if (!isWithin(n, 1, 20)) {
            return finding(BEYOND);
        }
        if (current.day > LAST_DAY - n) {
            return finding(STATE);
        }
        for (int i = 0; i < n; i++) {
            int piece = current.nextDraw() % MOST_PIECES;
            int place = current.nextDraw() % PLACES;
            if (current.hasPiece(piece)) {
                current.setFact(piece, PLACE, place);
            }
            current.passDay();
        }
        return current.at;
    }

    public long odds(int n, int what) {
        if (!isWithin(n, 0, 17) || !isWithin(what, 0, 1)) {
            return finding(BEYOND);
        }
        int drawnTo = Integer.bitCount(current.placeSet());
        int side = inLowestTerms(what == 0 ? drawnTo : PLACES, drawnTo);
        long product = 1;
        for (int i = 0; i < n; i++) {
            product *= side;
        }
        return product;
    }

    public int seed(int v) {
        int before = current.z;
        current.z = v;
        return before;
    }

    // ---- texts

    public int feed(int bytes, int n) {
        if (!isWithin(n, 1, 4)) {
            return finding(BEYOND);
        }
        if (tape.size > MOST_BYTES - n) {
            return finding(FULL);
        }
        for (int i = n - 1; i >= 0; i--) {
            tape.add((bytes >>> (8 * i)) & 255);
        }
        return tape.size;
    }

    public int wipe() {
        int before = tape.size;
        tape.size = 0;
        return before;
    }

    /** The text is read into the trial, so that a fault leaves no trace. */
    public int text() {
        trial.becomeWhole(current);
        int items = reader.readText();
        tape.size = 0;
        if (items >= 0) {
            current.becomeWhole(trial);
        }
        return items;
    }

    // ---- spots, sheets

    public int hold(int spot, int piece) {
        if (!isSpot(spot) || (piece != NOTHING && !current.hasPiece(piece))) {
            return finding(BEYOND);
        }
        current.setSpot(spot, piece);
        return 1;
    }

    public int as(int spot, int kind) {
        if (!isSpot(spot) || !isKind(kind)) {
            return finding(BEYOND);
        }
        int piece = current.spot(spot);
        if (piece == NOTHING) {
            return finding(MISSING);
        }
        if (!isKindUnder(current.fact(piece, KIND), kind)) {
            return finding(KIND_FINDING);
        }
        return piece;
    }

    public int sheet(int s, int bits, int n) {
        if (!isSheet(s) || (bits != 0 && bits != 8 && bits != 16 && bits != 32)) {
            return finding(BEYOND);
        }
        if (n < 0) {
            return finding(SIZE);
        }
        if (n > MOST_NUMBERS) {
            return finding(BEYOND);
        }
        int size = bits == 0 ? 0 : n;
        sheets.lay(s, bits, size);
        return size;
    }

    public int write(int s, int i, int v) {
        int fault = sheetFinding(s);
        if (fault != NO_FINDING) {
            return finding(fault);
        }
        if (!isWithin(i, 0, sheets.sizeOf(s) - 1)) {
            return finding(BEYOND);
        }
        sheets.put(s, i, v);
        return 1;
    }

    public int copy(int s, int from, int t, int to, int n) {
        if (!isSheet(s) || !isSheet(t)) {
            return finding(BEYOND);
        }
        if (sheets.isMissing(s) || sheets.isMissing(t)) {
            return finding(MISSING);
        }
        if (sheets.bitsOf(s) != sheets.bitsOf(t)) {
            return finding(KIND_FINDING);
        }
        if (!sheets.hasRange(s, from, n) || !sheets.hasRange(t, to, n)) {
            return finding(BEYOND);
        }
        sheets.move(s, from, t, to, n);
        return n;
    }

    public int load(int s) {
        int fault = sheetFinding(s);
        if (fault != NO_FINDING) {
            return finding(fault);
        }
        int many = Math.min(sheets.sizeOf(s), current.pieceCount);
        for (int i = 0; i < many; i++) {
            int length = sheets.number(s, i);
            if (!isFactValue(LONG, length)) {
                return i;
            }
            current.setFact(i, LONG, length);
        }
        return many;
    }

    public int judge(int s) {
        int fault = sheetFinding(s);
        if (fault != NO_FINDING) {
            return finding(fault);
        }
        for (int i = 0; i < sheets.sizeOf(s); i++) {
            if (!current.hasPiece(i) || current.fact(i, PLACE) != sheets.number(s, i)) {
                return 1 + i;
            }
        }
        return 0;
    }

    // ---- images

    public int image() {
        kept.becomeWhole(current);
        isKept = true;
        return 1;
    }

    public int undo() {
        if (!isKept) {
            return finding(NONE);
        }
        current.becomeWhole(kept);
        return current.day;
    }

    public int tear() {
        int before = isKept ? 1 : 0;
        isKept = false;
        return before;
    }

    public int count(int what) {
        switch (what) {
            case 0:
                return current.day;
            case 1:
                return current.pieceCount;
            case 2:
                return current.at;
            case 3:
                return current.longOutside(NOTHING);
            case 4:
                return current.wentOff;
            case 5:
                return tape.size;
            case 6:
                return current.z;
            case 7:
                return current.spotsHolding();
            default:
                return finding(BEYOND);
        }
    }

    public int status(int which) {
        if (!isWithin(which, -1, FINDINGS - 1)) {
            return finding(BEYOND);
        }
        if (which >= 0) {
            return findingsTold[which];
        }
        int all = 0;
        for (int i = 0; i < FINDINGS; i++) {
            all += findingsTold[i];
        }
        return all;
    }

    // ---- what the acts share

    private int finding(int which) {
        int i = BEYOND - which;
        if (i >= 0 && i < FINDINGS) {
            findingsTold[i]++;
        }
        return which;
    }

    private int sheetFinding(int s) {
        if (!isSheet(s)) {
            return BEYOND;
        }
        return sheets.isMissing(s) ? MISSING : NO_FINDING;
    }

    private void tryFact(int piece, int what, int v) {
        trial.becomeBall(current);
        trial.setFact(piece, what, v);
    }

    private int waysOf(int s, int piece, int what, int values) {
        int fault = sheetFinding(s);
        if (fault != NO_FINDING) {
            return finding(fault);
        }
        if (!current.hasPiece(piece)) {
            return finding(BEYOND);
        }
        int set = 0;
        for (int v = 0; v < values; v++) {
            tryFact(piece, what, v);
            if (trialFollows(s)) {
                set |= 1 << v;
            }
        }
        return set;
    }

    private boolean trialFollows(int s) {
        for (int i = 0; i < sheets.sizeOf(s); i++) {
            if (i > 0) {
                trial.passDay();
            }
            int told = sheets.number(s, i);
            if (told != ANY_PLACE && told != trial.at) {
                return false;
            }
        }
        return true;
    }

    private static boolean isWithin(int v, int least, int most) {
        return v >= least && v <= most;
    }

    private static boolean isPlace(int place) {
        return isWithin(place, 0, PLACES - 1);
    }

    private static boolean isKind(int kind) {
        return isWithin(kind, 0, KINDS - 1);
    }

    private static boolean isSpot(int spot) {
        return isWithin(spot, 0, SPOTS - 1);
    }

    private static boolean isSheet(int s) {
        return isWithin(s, 0, SHEETS - 1);
    }

    private static boolean isFactValue(int what, int v) {
        return isWithin(what, 0, FACTS - 1) && isWithin(v, FACT_LEAST[what], FACT_MOST[what]);
    }

    private static boolean isKindUnder(int kind, int wanted) {
        int above = kind;
        for (int step = 0; step < KINDS && isKind(above); step++) {
            if (above == wanted) {
                return true;
            }
            above = KIND_ABOVE[above];
        }
        return false;
    }

    /** A side of the fraction of so many places by all. */
    private static int inLowestTerms(int side, int many) {
        for (int divisor = PLACES; divisor > 1; divisor--) {
            if (many % divisor == 0 && PLACES % divisor == 0) {
                return side / divisor;
            }
        }
        return side;
    }

    /** All that an image keeps: the ball, its pieces, the days, the draws and the spots. */
    private static final class World {
        int at = 5;
        int drag = 10;
        int day = 0;
        int wentOff = 0;
        int z = 1;
        int pieceCount = 0;
        /** Pieces that are not felt, as a set: only ever told to a trial. */
        int loose = 0;
        int up = 0;
        int down = 0;
        private final int[] facts = new int[MOST_PIECES * FACTS];
        private final int[] spots = new int[SPOTS];

        World() {
            for (int i = 0; i < SPOTS; i++) {
                spots[i] = NOTHING;
            }
        }

        /** What the days depend on: draws and spots are left out, since trials are many. */
        void becomeBall(World other) {
            at = other.at;
            drag = other.drag;
            day = other.day;
            wentOff = other.wentOff;
            pieceCount = other.pieceCount;
            loose = 0;
            System.arraycopy(other.facts, 0, facts, 0, facts.length);
        }

        void becomeWhole(World other) {
            becomeBall(other);
            z = other.z;
            System.arraycopy(other.spots, 0, spots, 0, SPOTS);
        }

        boolean hasPiece(int piece) {
            return piece >= 0 && piece < pieceCount;
        }

        boolean isFull() {
            return pieceCount >= MOST_PIECES;
        }

        int fact(int piece, int what) {
            if (piece < 0 || piece >= MOST_PIECES || what < 0 || what >= FACTS) {
                return 0;
            }
            return facts[piece * FACTS + what];
        }

        void setFact(int piece, int what, int v) {
            if (piece >= 0 && piece < MOST_PIECES && what >= 0 && what < FACTS) {
                facts[piece * FACTS + what] = v;
            }
        }

        void raiseFact(int piece, int what) {
            if (isFactValue(what, fact(piece, what) + 1)) {
                setFact(piece, what, fact(piece, what) + 1);
            }
        }

        int spot(int i) {
            return isSpot(i) ? spots[i] : NOTHING;
        }

        void setSpot(int i, int piece) {
            if (isSpot(i)) {
                spots[i] = piece;
            }
        }

        int spotsHolding() {
            int many = 0;
            for (int i = 0; i < SPOTS; i++) {
                if (spots[i] != NOTHING) {
                    many++;
                }
            }
            return many;
        }

        int addPiece(int kind, int place) {
            int piece = pieceCount;
            pieceCount++;
            setFact(piece, KIND, kind);
            setFact(piece, PLACE, place);
            setFact(piece, LONG, 10);
            setFact(piece, KNOTS, 0);
            setFact(piece, AGE, 0);
            setFact(piece, CAME, 0);
            return piece;
        }

        int cutOutermost(int n) {
            int piece = pieceCount - 1;
            int length = fact(piece, LONG);
            if (length > n) {
                setFact(piece, LONG, length - n);
            } else {
                pieceCount = piece;
                emptySpotsOf(piece);
            }
            return length;
        }

        private void emptySpotsOf(int piece) {
            for (int i = 0; i < SPOTS; i++) {
                if (spots[i] == piece) {
                    spots[i] = NOTHING;
                }
            }
        }

        int nextDraw() {
            z = z * 1103515245 + 12345;
            return z >>> 8;
        }

        int tell(int piece, int what) {
            switch (what) {
                case PULLS:
                    return pullOf(piece);
                case LASTS:
                    return lastsOf(fact(piece, KIND));
                case DEEP:
                    return longOutside(piece);
                case FELT:
                    return feltOf(piece, longOutside(piece));
                default:
                    return fact(piece, what);
            }
        }

        private int pullOf(int piece) {
            int length = fact(piece, LONG);
            int asBirthday = day % 7 == 0 ? 3 * length : length;
            int asRow = Math.max(0, asBirthday - fact(piece, KNOTS));
            switch (fact(piece, KIND)) {
                case TICKING:
                    return length + fact(piece, AGE);
                case BIRTHDAY:
                    return asBirthday;
                case ROW:
                    return asRow;
                case LETTER:
                    return asRow + 5 * Math.abs(fact(piece, PLACE) - at);
                case HERS:
                    return length / 2;
                case FUSE:
                    return 2 * (length + fact(piece, AGE));
                default:
                    return length;
            }
        }

        private static int lastsOf(int kind) {
            switch (kind) {
                case TICKING:
                    return 30;
                case FUSE:
                    return 10;
                default:
                    return 0;
            }
        }

        private static int givesOf(int kind) {
            switch (kind) {
                case ROW:
                    return 2;
                case LETTER:
                    return 3;
                case HERS:
                    return 5;
                default:
                    return 0;
            }
        }

        /** Takes DEEP as told, so that a walk inwards can carry it along. */
        private int feltOf(int piece, int deep) {
            if ((loose >> piece & 1) != 0) {
                return 0;
            }
            int tight = Math.max(0, fact(piece, KNOTS) - givesOf(fact(piece, KIND)));
            return Math.max(0, pullOf(piece) - deep / 10 - tight);
        }

        /** LONG of all pieces about this one; of all that there are for NOTHING. */
        int longOutside(int piece) {
            int sum = 0;
            for (int outer = pieceCount - 1; outer > piece; outer--) {
                sum += fact(outer, LONG);
            }
            return sum;
        }

        int feltTo(int place) {
            int sum = 0;
            for (int piece = 0; piece < pieceCount; piece++) {
                if (fact(piece, PLACE) == place) {
                    sum += tell(piece, FELT);
                }
            }
            return sum;
        }

        int placeSet() {
            int set = 0;
            for (int piece = 0; piece < pieceCount; piece++) {
                set |= 1 << fact(piece, PLACE);
            }
            return set;
        }

        int mostFelt() {
            int best = NOTHING;
            int bestFelt = -1;
            for (int piece = 0; piece < pieceCount; piece++) {
                int felt = tell(piece, FELT);
                if (felt > bestFelt) {
                    best = piece;
                    bestFelt = felt;
                }
            }
            return best;
        }

        void weigh() {
            up = 0;
            down = 0;
            int deep = 0;
            for (int piece = pieceCount - 1; piece >= 0; piece--) {
                int place = fact(piece, PLACE);
                if (place > at) {
                    up += feltOf(piece, deep);
                } else if (place < at) {
                    down += feltOf(piece, deep);
                }
                deep += fact(piece, LONG);
            }
        }

        void passDays(int n) {
            for (int i = 0; i < n; i++) {
                passDay();
            }
        }

        void passDay() {
            weigh();
            if (up > down + drag) {
                moveTo(at + 1);
            } else if (down > up + drag) {
                moveTo(at - 1);
            }
            for (int piece = 0; piece < pieceCount; piece++) {
                raiseFact(piece, AGE);
            }
            goOffFirst();
            day = Math.min(LAST_DAY, day + 1);
        }

        private void moveTo(int place) {
            at = place;
            for (int piece = 0; piece < pieceCount; piece++) {
                if (fact(piece, PLACE) == place) {
                    raiseFact(piece, CAME);
                    raiseFact(piece, KNOTS);
                }
            }
        }

        /** Only one piece goes off on a day: others that are due wait for the next. */
        private void goOffFirst() {
            for (int piece = 0; piece < pieceCount; piece++) {
                int lasts = lastsOf(fact(piece, KIND));
                if (lasts > 0 && fact(piece, AGE) >= lasts) {
                    setFact(piece, AGE, 0);
                    halveOutside(piece);
                    wentOff = Math.min(MOST_OFF, wentOff + 1);
                    return;
                }
            }
        }

        private void halveOutside(int piece) {
            for (int outer = piece + 1; outer < pieceCount; outer++) {
                setFact(outer, LONG, Math.max(1, fact(outer, LONG) / 2));
            }
        }
    }

    /** The bytes of a text, each 0 to 255. */
    private static final class Tape {
        int size = 0;
        private final int[] bytes = new int[MOST_BYTES];

        void add(int value) {
            if (size >= 0 && size < MOST_BYTES) {
                bytes[size] = value;
                size++;
            }
        }

        /** NOTHING where the tape has no byte, which begins and continues no token. */
        int byteAt(int i) {
            return i >= 0 && i < size && i < MOST_BYTES ? bytes[i] : NOTHING;
        }
    }

    /** Reads the tape, token by token, into a world. */
    private static final class TextReader {
        private static final int END = 0;
        private static final int WORD = 1;
        private static final int NUMBER = 2;
        private static final int SEMICOLON = 3;
        private static final int OTHER = 4;
        private static final int TOO_MUCH = 1000;

        private final Tape tape;
        private final World world;
        private int tokenSort = END;
        private int tokenStart = 0;
        private int tokenEnd = 0;
        private int tokenNumber = 0;

        TextReader(Tape tape, World world) {
            this.tape = tape;
            this.world = world;
        }

        /** How many items; or -1 less the fault. */
        int readText() {
            tokenEnd = 0;
            takeToken();
            for (int items = 1; items <= MOST_BYTES; items++) {
                if (!readItem()) {
                    return -1 - tokenStart;
                }
                if (tokenSort == END) {
                    return items;
                }
                if (tokenSort != SEMICOLON) {
                    return -1 - tokenStart;
                }
                takeToken();
            }
            return -1 - tokenStart;
        }

        /** False if the token at hand is the fault. */
        private boolean readItem() {
            for (int kind = 0; kind < KINDS; kind++) {
                if (isWord(wordOf(kind))) {
                    return readPiece(kind);
                }
            }
            if (isWord("ball")) {
                takeToken();
                return readBall();
            }
            if (isWord("drag")) {
                takeToken();
                return readDrag();
            }
            return false;
        }

        private boolean readBall() {
            if (!isNumber(0, PLACES - 1)) {
                return false;
            }
            world.at = tokenNumber;
            takeToken();
            return true;
        }

        private boolean readDrag() {
            if (!isNumber(0, MOST_DRAG)) {
                return false;
            }
            world.drag = tokenNumber;
            takeToken();
            return true;
        }

        private boolean readPiece(int kind) {
            if (world.isFull()) {
                return false;
            }
            int piece = world.addPiece(kind, 0);
            takeToken();
            return readFact("to", piece, PLACE)
                && readFact("long", piece, LONG)
                && readFact("knots", piece, KNOTS);
        }

        private boolean readFact(String word, int piece, int what) {
            if (!isWord(word)) {
                return true;
            }
            takeToken();
            if (tokenSort != NUMBER || !isFactValue(what, tokenNumber)) {
                return false;
            }
            world.setFact(piece, what, tokenNumber);
            takeToken();
            return true;
        }

        private boolean isNumber(int least, int most) {
            return tokenSort == NUMBER && isWithin(tokenNumber, least, most);
        }

        private boolean isWord(String word) {
            if (tokenSort != WORD || word.length() != tokenEnd - tokenStart) {
                return false;
            }
            for (int i = 0; i < word.length(); i++) {
                if (word.charAt(i) != tape.byteAt(tokenStart + i)) {
                    return false;
                }
            }
            return true;
        }

        private void takeToken() {
            tokenStart = tokenEnd;
            while (tokenStart < tape.size && tape.byteAt(tokenStart) == ' ') {
                tokenStart++;
            }
            int first = tape.byteAt(tokenStart);
            if (first == NOTHING) {
                tokenSort = END;
                tokenEnd = tokenStart;
            } else if (isLetter(first)) {
                takeWord();
            } else if (isDigit(first)) {
                takeNumber();
            } else {
                tokenSort = first == ';' ? SEMICOLON : OTHER;
                tokenEnd = tokenStart + 1;
            }
        }

        private void takeWord() {
            tokenSort = WORD;
            tokenEnd = tokenStart;
            while (tokenEnd < tape.size && isLetter(tape.byteAt(tokenEnd))) {
                tokenEnd++;
            }
        }

        /** A number above 999 stands for any that is too great: no place takes one. */
        private void takeNumber() {
            tokenSort = NUMBER;
            tokenEnd = tokenStart;
            tokenNumber = 0;
            while (tokenEnd < tape.size && isDigit(tape.byteAt(tokenEnd))) {
                tokenNumber = Math.min(TOO_MUCH, tokenNumber * 10 + tape.byteAt(tokenEnd) - '0');
                tokenEnd++;
            }
        }

        private static boolean isLetter(int value) {
            return value >= 'a' && value <= 'z';
        }

        private static boolean isDigit(int value) {
            return value >= '0' && value <= '9';
        }

        private static String wordOf(int kind) {
            switch (kind) {
                case PIECE:
                    return "piece";
                case TICKING:
                    return "ticking";
                case BIRTHDAY:
                    return "birthday";
                case ROW:
                    return "row";
                case LETTER:
                    return "letter";
                case HERS:
                    return "hers";
                case FUSE:
                    return "fuse";
                default:
                    return "";
            }
        }
    }

    /** Rows of numbers, each in its share of one long row. */
    private static final class Sheets {
        private final int[] bits = new int[SHEETS];
        private final int[] sizes = new int[SHEETS];
        private final int[] numbers = new int[SHEETS * MOST_NUMBERS];

        void lay(int s, int width, int size) {
            if (!isSheet(s)) {
                return;
            }
            bits[s] = width;
            sizes[s] = size;
            for (int i = 0; i < MOST_NUMBERS; i++) {
                numbers[s * MOST_NUMBERS + i] = 0;
            }
        }

        int bitsOf(int s) {
            return isSheet(s) ? bits[s] : 0;
        }

        int sizeOf(int s) {
            return isSheet(s) ? sizes[s] : 0;
        }

        boolean isMissing(int s) {
            return bitsOf(s) == 0;
        }

        int number(int s, int i) {
            return hasRange(s, i, 1) ? numbers[s * MOST_NUMBERS + i] : 0;
        }

        void put(int s, int i, int v) {
            if (hasRange(s, i, 1)) {
                numbers[s * MOST_NUMBERS + i] = lowestBits(v, bits[s]);
            }
        }

        boolean hasRange(int s, int from, int n) {
            int size = Math.min(MOST_NUMBERS, sizeOf(s));
            return from >= 0 && n >= 0 && n <= size && from <= size - n;
        }

        void move(int s, int from, int t, int to, int n) {
            if (hasRange(s, from, n) && hasRange(t, to, n)) {
                System.arraycopy(numbers, s * MOST_NUMBERS + from, numbers, t * MOST_NUMBERS + to, n);
            }
        }

        private static int lowestBits(int v, int width) {
            switch (width) {
                case 8:
                    return (byte) v;
                case 16:
                    return (short) v;
                default:
                    return v;
            }
        }
    }
}
