import java.util.Arrays;

/**
 * Rubato must be made up by Friday: pieces, players with stores of stolen time, and the laws between them.
 * What each call promises stands in the document; a call that is refused changes nothing and answers a code.
 */
public final class RubatoDesk {
    public static final int NONE = -1;

    private static final int REFUSED = -99000000;
    private static final int NO_ROW = REFUSED - 1;
    private static final int NO_SUCH = REFUSED - 2;
    private static final int BAD_NUMBER = REFUSED - 3;
    private static final int TOO_MANY = REFUSED - 4;
    private static final int NOT_NOW = REFUSED - 5;
    private static final int TRAY_MISSING = REFUSED - 6;
    private static final int NO_NUMBER = REFUSED - 7;
    private static final int WHY_NOT = REFUSED - 10;
    private static final int TEXT_FAULT = REFUSED - 30;

    private static final int MOST_BYTES = 900;
    private static final int MOST_PIECES = 4;
    private static final int MOST_BARS = 12;
    private static final int MOST_PLAYERS = 5;
    private static final int MOST_STORE = 20;
    private static final int MOST_DRAW = 2;
    private static final int MOST_TICKS = 40;
    private static final int MOST_TEMPER = 9;
    private static final int MOST_TIMES = 40;
    private static final int MOST_NUMBERS = 40;
    private static final int MOST_UNDONE = 10;
    private static final int TRAYS = 4;
    private static final int SORTS = 4;
    private static final int IMAGES = 2;

    private static final int STORES = 2 * MOST_STORE + 1;
    private static final int DRAWS = 2 * MOST_DRAW + 1;
    private static final int STATES = STORES * DRAWS;
    private static final int EVERY_DRAW = (1 << DRAWS) - 1;

    /** No gladness of a BAR or of some PIECES is ever so low. */
    private static final int NOT = Integer.MIN_VALUE;
    private static final int NOT_PLAYED = 9;
    private static final int NOT_HEARD = 9;
    private static final int ANY_END = 99;
    private static final int FIRST_BAR_ASKED = 10;

    private final byte[] tape = new byte[MOST_BYTES];
    private int tapeLength = 0;
    private final Reader reader = new Reader();
    private final Sheet[] sheets = new Sheet[IMAGES + 2];
    private Sheet sheet;
    private final State now = new State();
    private final State aside = new State();
    private final History history = new History();
    private final Sheet[] imageSheets = new Sheet[IMAGES];
    private final State[] imageStates = new State[IMAGES];
    private final Tray[] trays = new Tray[TRAYS];
    private final Bars playing;
    private final Course course;
    private final Ways ways;
    private final Orders orders;
    private final Deeds deeds;
    /** Rows that several calls use again, so that no call makes one: which draws a BAR may have, a number by STORE. */
    private final int[] someDraws = new int[MOST_BARS];
    private final int[] storeRow = new int[STORES];

    public RubatoDesk() {
        for (int i = 0; i < IMAGES; i++) {
            imageStates[i] = new State();
        }
        for (int i = 0; i < TRAYS; i++) {
            trays[i] = new Tray();
        }
        sheet = new Sheet();
        sheets[0] = sheet;
        playing = new Bars(sheet);
        course = new Course(playing);
        ways = new Ways(playing);
        orders = new Orders(playing, ways);
        deeds = new Deeds(playing, course, ways);
    }

    // ---- the desk

    public int feed(int a, int b, int c, int d, int e) {
        if (tapeLength + 20 > MOST_BYTES) {
            return NOT_NOW;
        }
        feedFour(a);
        feedFour(b);
        feedFour(c);
        feedFour(d);
        feedFour(e);
        return tapeLength;
    }

    public int desk(int n) {
        if (n < 0 || n > tapeLength) {
            return BAD_NUMBER;
        }
        Sheet fresh = spareSheet();
        boolean right = reader.read(tape, n, fresh);
        tapeLength = 0;
        if (!right) {
            return TEXT_FAULT - reader.faultKind;
        }
        useSheet(fresh);
        now.begin(fresh);
        history.clear();
        return fresh.lines;
    }

    public int fault(int what) {
        if (what == 0) {
            return reader.faultKind;
        }
        return what == 1 ? reader.faultPlace : NONE;
    }

    public int player(int p, int what) {
        if (!sheet.hasPlayer(p)) {
            return NO_SUCH;
        }
        switch (what) {
            case 0:
                return now.stores[p];
            case 1:
                return now.joys[p];
            case 2:
                return now.temperaments[p];
            case 3:
                return now.isBarred(p) ? 1 : 0;
            default:
                return NO_SUCH;
        }
    }

    public int wants(int piece, int bar) {
        return sheet.hasBar(piece, bar) ? sheet.wantOf(piece, bar) : NO_SUCH;
    }

    public int bars(int piece) {
        return sheet.hasPiece(piece) ? sheet.barsOf(piece) : NO_SUCH;
    }

    public int glad(int p, int piece, int bar, int draw, int last) {
        if (!sheet.hasPlayer(p) || !sheet.hasBar(piece, bar)) {
            return NO_SUCH;
        }
        if (!isDraw(draw) || !isDraw(last)) {
            return BAD_NUMBER;
        }
        takeUp(p, piece);
        return playing.gladBy(bar, now.stores[p], last, draw);
    }

    // ---- deeds

    public int play(int p, int piece) {
        aside.copy(now);
        int why = deeds.playComing(now, p, piece);
        if (why != 0) {
            return WHY_NOT - why;
        }
        history.keep(aside);
        return deeds.gladness;
    }

    public int perform(int p, int piece) {
        aside.copy(now);
        int why = deeds.playBest(now, p, piece);
        if (why != 0) {
            return WHY_NOT - why;
        }
        history.keep(aside);
        return deeds.gladness;
    }

    public int lend(int p, int q, int ticks) {
        aside.copy(now);
        int why = deeds.lendTicks(now, p, q, ticks);
        if (why != 0) {
            return WHY_NOT - why;
        }
        history.keep(aside);
        return now.stores[p];
    }

    public int temper(int p, int n) {
        aside.copy(now);
        int why = deeds.haveTemper(now, p, n);
        if (why != 0) {
            return WHY_NOT - why;
        }
        history.keep(aside);
        return aside.temperaments[p];
    }

    public int friday() {
        history.keep(now);
        deeds.holdFriday(now);
        return now.barred;
    }

    public int undo(int n) {
        if (n < 1 || n > MOST_UNDONE || n > history.size) {
            return BAD_NUMBER;
        }
        for (int i = 0; i < n; i++) {
            history.bringBack(now);
        }
        return history.size;
    }

    public int judge(int tray, int what) {
        if (!isTray(tray) || what < 0 || what > 3) {
            return NO_SUCH;
        }
        Tray told = trays[tray];
        if (told.isMissing()) {
            return TRAY_MISSING;
        }
        aside.copy(now);
        int place = 0;
        int why = 0;
        for (int i = 0; i < told.size && why == 0; i++) {
            place = i;
            why = deeds.doTold(aside, told.at(i));
        }
        switch (what) {
            case 0:
                return why == 0 ? NONE : place;
            case 1:
                return why;
            case 2:
                return aside.allStores();
            default:
                return aside.allJoy();
        }
    }

    public int does(int tray) {
        if (!isTray(tray)) {
            return NO_SUCH;
        }
        Tray told = trays[tray];
        if (told.isMissing()) {
            return TRAY_MISSING;
        }
        aside.copy(now);
        int done = 0;
        for (int i = 0; i < told.size && deeds.doTold(now, told.at(i)) == 0; i++) {
            done++;
        }
        if (done > 0) {
            history.keep(aside);
        }
        return done;
    }

    public int term(int seed, int times) {
        if (times < 1 || times > MOST_TIMES) {
            return BAD_NUMBER;
        }
        aside.copy(now);
        deeds.sow(seed);
        int done = 0;
        for (int i = 0; i < times; i++) {
            if (deeds.doDrawn(now) == 0) {
                done++;
            }
        }
        if (done > 0) {
            history.keep(aside);
        }
        return done;
    }

    // ---- as it comes, best

    public int comes(int p, int piece, int what) {
        if (!hasBoth(p, piece) || !(isOfRow(what) || what == 2)) {
            return NO_SUCH;
        }
        takeUp(p, piece);
        course.run(now.stores[p]);
        switch (what) {
            case 0:
                return course.gladness;
            case 1:
                return course.end;
            case 2:
                return course.brokeAt;
            default:
                return course.drawOf(what - FIRST_BAR_ASKED);
        }
    }

    public int best(int p, int piece, int goal, int what) {
        if (!hasBoth(p, piece) || !isOfRow(what)) {
            return NO_SUCH;
        }
        if (!isStore(goal)) {
            return BAD_NUMBER;
        }
        return findBest(p, piece, goal, ways.every) ? ways.tell(what) : NO_ROW;
    }

    public long rows(int p, int piece, int end) {
        if (!hasBoth(p, piece)) {
            return NO_SUCH;
        }
        if (!isStore(end)) {
            return BAD_NUMBER;
        }
        takeUp(p, piece);
        return ways.howMany(now.stores[p], end, ways.every);
    }

    public int thriftiest(int p, int piece) {
        if (!hasBoth(p, piece)) {
            return NO_SUCH;
        }
        int[] ends = endsOf(p, piece);
        for (int store = MOST_STORE; store >= -MOST_STORE; store--) {
            if (ends[store + MOST_STORE] != NOT) {
                return store;
            }
        }
        return NO_ROW;
    }

    public int least(int p, int piece, int goal, int gladness) {
        if (!hasBoth(p, piece)) {
            return NO_SUCH;
        }
        if (!isStore(goal)) {
            return BAD_NUMBER;
        }
        takeUp(p, piece);
        ways.settle(-MOST_STORE, MOST_STORE, goal, ways.every);
        for (int store = -MOST_STORE; store <= MOST_STORE; store++) {
            int most = ways.mostFrom(store);
            if (most != NOT && most >= gladness) {
                return store;
            }
        }
        return NO_ROW;
    }

    public int squarest(int p, int piece) {
        if (!hasBoth(p, piece)) {
            return NO_SUCH;
        }
        int[] ends = endsOf(p, piece);
        int most = NOT;
        int mostTogether = NOT;
        int found = NO_ROW;
        for (int goal = MOST_STORE; goal >= -MOST_STORE; goal--) {
            most = Math.max(most, ends[goal + MOST_STORE]);
            if (most != NOT && most + 3 * goal >= mostTogether) {
                mostTogether = most + 3 * goal;
                found = goal;
            }
        }
        return found;
    }

    // ---- orders

    public int order(int p, int set, int goal, int what) {
        int place = what - FIRST_BAR_ASKED;
        if (!sheet.hasPlayer(p) || what != 0 && (place < 0 || place >= MOST_PIECES)) {
            return NO_SUCH;
        }
        if (set <= 0 || set >= 1 << sheet.pieces || !isStore(goal)) {
            return BAD_NUMBER;
        }
        orders.find(p, now, set, goal);
        if (orders.gladness == NOT) {
            return NO_ROW;
        }
        return what == 0 ? orders.gladness : orders.pieceAt(place);
    }

    public int mostPieces(int p, int goal) {
        if (!sheet.hasPlayer(p)) {
            return NO_SUCH;
        }
        if (!isStore(goal)) {
            return BAD_NUMBER;
        }
        return orders.largestSet(p, now, goal);
    }

    public int gladdest(int piece) {
        if (!sheet.hasPiece(piece)) {
            return NO_SUCH;
        }
        int found = NONE;
        int most = NOT;
        for (int p = 0; p < sheet.players; p++) {
            if (findBest(p, piece, 0, ways.every) && ways.gladness > most) {
                most = ways.gladness;
                found = p;
            }
        }
        return found;
    }

    public int lends(int p, int piece, int q, int other) {
        if (!hasBoth(p, piece) || !hasBoth(q, other) || p == q) {
            return NO_SUCH;
        }
        int own = now.stores[p];
        int others = now.stores[q];
        takeUp(p, piece);
        ways.settle(-MOST_STORE, own, 0, ways.every);
        for (int store = -MOST_STORE; store <= own; store++) {
            storeRow[store + MOST_STORE] = ways.mostFrom(store);
        }
        takeUp(q, other);
        ways.settle(others, MOST_STORE, 0, ways.every);
        int found = NONE;
        int most = NOT;
        for (int ticks = 0; own - ticks >= -MOST_STORE && others + ticks <= MOST_STORE; ticks++) {
            int first = storeRow[own - ticks + MOST_STORE];
            int second = ways.mostFrom(others + ticks);
            if (first != NOT && second != NOT && first + second > most) {
                most = first + second;
                found = ticks;
            }
        }
        return found;
    }

    // ---- two

    public int reply(int p, int q, int piece, int what) {
        if (!hasBoth(p, piece) || !sheet.hasPlayer(q) || p == q || !isOfRow(what)) {
            return NO_SUCH;
        }
        if (!findBest(p, piece, 0, ways.every)) {
            return NO_ROW;
        }
        for (int bar = 0; bar < MOST_BARS; bar++) {
            // a draw and its neighbours; one beyond the bounds falls away with the mask
            someDraws[bar] = bitOf(ways.row[bar]) * 7 >> 1 & EVERY_DRAW;
        }
        return findBest(q, piece, 0, someDraws) ? ways.tell(what) : NO_ROW;
    }

    // ---- heard

    public long heard(int tray, int p, int piece, int end) {
        int refused = refuseHeard(tray, p, piece);
        if (refused != 0) {
            return refused;
        }
        if (!isStore(end) && end != ANY_END) {
            return BAD_NUMBER;
        }
        takeUp(p, piece);
        return ways.howMany(now.stores[p], end, someDraws);
    }

    public int sure(int tray, int p, int piece, int end, int bar) {
        int refused = refuseHeard(tray, p, piece);
        if (refused != 0) {
            return refused;
        }
        if (!isStore(end) && end != ANY_END) {
            return BAD_NUMBER;
        }
        if (!sheet.hasBar(piece, bar)) {
            return NO_NUMBER;
        }
        takeUp(p, piece);
        int open = someDraws[bar];
        int found = NOT_HEARD;
        for (int draw = -MOST_DRAW; draw <= MOST_DRAW; draw++) {
            someDraws[bar] = open & bitOf(draw);
            if (ways.howMany(now.stores[p], end, someDraws) > 0) {
                if (found != NOT_HEARD) {
                    return NOT_HEARD;
                }
                found = draw;
            }
        }
        return found;
    }

    public int tempers(int tray, int p, int piece) {
        int refused = refuseHeard(tray, p, piece);
        return refused != 0 ? refused : tempersHeard(p, piece);
    }

    public int next(int tray, int p, int piece) {
        int refused = refuseHeard(tray, p, piece);
        if (refused != 0) {
            return refused;
        }
        int set = tempersHeard(p, piece);
        if (set == 0) {
            return NONE;
        }
        int found = NONE;
        int fewest = MOST_TEMPER + 2;
        for (int other = 0; other < sheet.pieces; other++) {
            int alike = other == piece ? fewest : mostAlike(p, other, set);
            if (alike < fewest) {
                fewest = alike;
                found = other;
            }
        }
        return found;
    }

    // ---- chances

    public long chance(int p, int piece, int goal, int what) {
        if (!hasBoth(p, piece) || what < 0 || what > 1) {
            return NO_SUCH;
        }
        if (!isStore(goal)) {
            return BAD_NUMBER;
        }
        takeUp(p, piece);
        long above = course.chances(now.stores[p], goal);
        long below = course.allChances();
        long divisor = commonDivisor(above, below);
        if (divisor == 0) {
            return 0;
        }
        return (what == 0 ? above : below) / divisor;
    }

    public int putBy(int p, int piece, int m) {
        if (!hasBoth(p, piece)) {
            return NO_SUCH;
        }
        if (m < 0 || m > 100) {
            return BAD_NUMBER;
        }
        takeUp(p, piece);
        long wanted = m * course.allChances();
        for (int store = -MOST_STORE; store <= MOST_STORE; store++) {
            if (100 * course.chances(store, 0) >= wanted) {
                return store;
            }
        }
        return NO_ROW;
    }

    // ---- trays, images

    public int numbers(int tray, int sort, int n) {
        if (!isTray(tray) || sort < 0 || sort >= SORTS) {
            return NO_SUCH;
        }
        if (n < 0 || n > MOST_NUMBERS) {
            return BAD_NUMBER;
        }
        trays[tray].begin(sort, n);
        return 0;
    }

    public long write(int tray, int i, long v) {
        if (!isTray(tray)) {
            return NO_SUCH;
        }
        Tray into = trays[tray];
        if (into.isMissing()) {
            return TRAY_MISSING;
        }
        if (i < 0 || i >= into.size) {
            return NO_NUMBER;
        }
        into.put(i, v);
        return into.at(i);
    }

    public int lists(int tray, int p, int piece, int goal) {
        if (!isTray(tray) || !hasBoth(p, piece)) {
            return NO_SUCH;
        }
        Tray into = trays[tray];
        if (into.isMissing()) {
            return TRAY_MISSING;
        }
        if (!isStore(goal)) {
            return BAD_NUMBER;
        }
        if (!findBest(p, piece, goal, ways.every)) {
            return NOT_NOW;
        }
        int places = Math.min(sheet.barsOf(piece), into.size);
        for (int i = 0; i < places; i++) {
            into.put(i, ways.row[i]);
        }
        return places;
    }

    public int image(int i) {
        if (i < 0 || i >= IMAGES) {
            return NO_SUCH;
        }
        imageSheets[i] = sheet;
        imageStates[i].copy(now);
        return 0;
    }

    public int restore(int i) {
        if (i < 0 || i >= IMAGES) {
            return NO_SUCH;
        }
        Sheet kept = imageSheets[i];
        if (kept == null) {
            return NOT_NOW;
        }
        useSheet(kept);
        now.copy(imageStates[i]);
        history.clear();
        return 0;
    }

    public int count(int what) {
        switch (what) {
            case 0:
                return sheet.pieces;
            case 1:
                return sheet.players;
            case 2:
                return sheet.allBars();
            case 3:
                return now.allStores();
            case 4:
                return now.allJoy();
            case 5:
                return now.barred;
            case 6:
                return now.week;
            case 7:
                return sheet.slips;
            case 8:
                return history.size;
            case 9:
                return tapeLength;
            case 10:
                return sheet.lines;
            default:
                return NONE;
        }
    }

    // ---- what several calls need

    private void feedFour(int four) {
        for (int shift = 24; shift >= 0 && tapeLength < tape.length; shift -= 8) {
            tape[tapeLength] = (byte) (four >>> shift);
            tapeLength++;
        }
    }

    /** A text is read beside THE DESK, for with a FAULT all stays; IMAGES share their sheets, so none is copied. */
    private Sheet spareSheet() {
        for (int i = 0; i < sheets.length; i++) {
            if (sheets[i] == null) {
                sheets[i] = new Sheet();
            }
            Sheet spare = sheets[i];
            if (spare != sheet && spare != imageSheets[0] && spare != imageSheets[1]) {
                return spare;
            }
        }
        return new Sheet();
    }

    private void useSheet(Sheet used) {
        sheet = used;
        playing.useSheet(used);
    }

    private boolean hasBoth(int p, int piece) {
        return sheet.hasPlayer(p) && sheet.hasPiece(piece);
    }

    private static boolean isStore(int n) {
        return n >= -MOST_STORE && n <= MOST_STORE;
    }

    private static boolean isDraw(int n) {
        return n >= -MOST_DRAW && n <= MOST_DRAW;
    }

    private static boolean isTray(int tray) {
        return tray >= 0 && tray < TRAYS;
    }

    private static boolean isOfRow(int what) {
        return what == 0 || what == 1 || what >= FIRST_BAR_ASKED && what < FIRST_BAR_ASKED + MOST_BARS;
    }

    private static int bitOf(int draw) {
        return 1 << draw + MOST_DRAW;
    }

    private void takeUp(int p, int piece) {
        playing.takeUp(p, now.temperaments[p], piece);
    }

    private boolean findBest(int p, int piece, int goal, int[] allowed) {
        takeUp(p, piece);
        int store = now.stores[p];
        ways.settle(store, store, goal, allowed);
        return ways.follow(store);
    }

    /** The greatest GLADNESS of the ROWS from the STORE of now, by the STORE behind them. */
    private int[] endsOf(int p, int piece) {
        takeUp(p, piece);
        Arrays.fill(storeRow, NOT);
        storeRow[now.stores[p] + MOST_STORE] = 0;
        ways.spread(storeRow, storeRow);
        return storeRow;
    }

    /** The code by which it is refused, or 0: then someDraws tells what each BAR may have been DRAWN out by. */
    private int refuseHeard(int tray, int p, int piece) {
        if (!isTray(tray) || !hasBoth(p, piece)) {
            return NO_SUCH;
        }
        Tray told = trays[tray];
        if (told.isMissing()) {
            return TRAY_MISSING;
        }
        if (told.size != sheet.barsOf(piece)) {
            return TOO_MANY;
        }
        for (int i = 0; i < told.size && i < MOST_BARS; i++) {
            long number = told.at(i);
            if (number == NOT_HEARD) {
                someDraws[i] = EVERY_DRAW;
            } else if (number >= -MOST_DRAW && number <= MOST_DRAW) {
                someDraws[i] = bitOf((int) number);
            } else {
                return BAD_NUMBER;
            }
        }
        return 0;
    }

    private int tempersHeard(int p, int piece) {
        int set = 0;
        for (int temper = 0; temper <= MOST_TEMPER; temper++) {
            playing.takeUp(p, temper, piece);
            course.run(now.stores[p]);
            if (course.isWithin(someDraws)) {
                set |= 1 << temper;
            }
        }
        return set;
    }

    /** How many of a set of tempers one can't tell apart by the STORE behind a PIECE, where they are most. */
    private int mostAlike(int p, int piece, int set) {
        Arrays.fill(storeRow, 0);
        int most = 0;
        for (int temper = 0; temper <= MOST_TEMPER; temper++) {
            if ((set >> temper & 1) != 0) {
                playing.takeUp(p, temper, piece);
                course.run(now.stores[p]);
                storeRow[course.end + MOST_STORE]++;
                most = Math.max(most, storeRow[course.end + MOST_STORE]);
            }
        }
        return most;
    }

    private static long commonDivisor(long a, long b) {
        // the numbers stay below 10 to the 12th: Euclid needs far fewer rounds
        for (int i = 0; i < 200 && b != 0; i++) {
            long left = a % b;
            a = b;
            b = left;
        }
        return a;
    }

    /** What the text of a desk tells; once read it stays as it is. */
    private static final class Sheet {
        final int[] wanted = new int[MOST_PIECES * MOST_BARS];
        final int[] barsIn = new int[MOST_PIECES];
        final int[] stores = new int[MOST_PLAYERS];
        final int[] temperaments = new int[MOST_PLAYERS];
        final Law gladLaw = new Law();
        final Law mayLaw = new Law();
        int pieces = 0;
        int players = 0;
        int slips = 0;
        int lines = 0;

        void clear() {
            Arrays.fill(wanted, 0);
            Arrays.fill(barsIn, 0);
            Arrays.fill(stores, 0);
            Arrays.fill(temperaments, 0);
            gladLaw.clear();
            mayLaw.clear();
            pieces = 0;
            players = 0;
            slips = 0;
            lines = 0;
        }

        boolean hasPiece(int piece) {
            return piece >= 0 && piece < pieces && piece < barsIn.length;
        }

        boolean hasPlayer(int p) {
            return p >= 0 && p < players && p < stores.length;
        }

        boolean hasBar(int piece, int bar) {
            return hasPiece(piece) && bar >= 0 && bar < barsIn[piece] && bar < MOST_BARS;
        }

        int barsOf(int piece) {
            return hasPiece(piece) ? barsIn[piece] : 0;
        }

        int wantOf(int piece, int bar) {
            return hasBar(piece, bar) ? wanted[piece * MOST_BARS + bar] : 0;
        }

        int allBars() {
            int all = 0;
            for (int piece = 0; piece < pieces; piece++) {
                all += barsOf(piece);
            }
            return all;
        }

        /** A BAR behind the last one of the last PIECE. */
        void addBar(int want) {
            int piece = pieces - 1;
            if (hasPiece(piece) && barsIn[piece] < MOST_BARS) {
                wanted[piece * MOST_BARS + barsIn[piece]] = want;
                barsIn[piece]++;
            }
        }
    }

    /** A law as steps behind one another: what is joined stands ahead of what joins it. */
    private static final class Law {
        /** Steps below are numbers; from here on words, by what they are in Reader.WORDS. */
        static final int WORD = 1000;
        /** From here on what joins, by the TOKEN that tells it. */
        static final int JOINT = 2000;
        /** Seven levels of brackets with five joints open in each stay far below it. */
        static final int MOST_OPEN = 64;
        private static final int MOST_VALUE = 1000000;

        private final int[] steps = new int[MOST_BYTES];
        private int length = 0;
        private int asked = 0;

        void clear() {
            length = 0;
            asked = 0;
        }

        boolean isTold() {
            return length > 0;
        }

        boolean asksFor(int word) {
            return (asked >> word & 1) != 0;
        }

        void add(int step) {
            if (length < steps.length) {
                steps[length] = step;
                length++;
            }
            if (step >= WORD && step < JOINT) {
                asked |= 1 << step - WORD;
            }
        }

        int valueOf(int[] words, int[] stack) {
            int top = 0;
            for (int i = 0; i < length; i++) {
                int step = steps[i];
                if (step < JOINT) {
                    int word = step - WORD;
                    if (top >= stack.length || word >= words.length) {
                        return 0;
                    }
                    stack[top] = word < 0 ? step : words[word];
                    top++;
                } else if (step == JOINT + Reader.NOT_WORD) {
                    if (top < 1) {
                        return 0;
                    }
                    stack[top - 1] = 1 - stack[top - 1];
                } else {
                    if (top < 2) {
                        return 0;
                    }
                    top--;
                    stack[top - 1] = joined(step - JOINT, stack[top - 1], stack[top]);
                }
            }
            return top == 1 ? stack[0] : 0;
        }

        private static int joined(int joint, int a, int b) {
            long value;
            switch (joint) {
                case '+':
                    value = (long) a + b;
                    break;
                case '-':
                    value = (long) a - b;
                    break;
                case '*':
                    value = (long) a * b;
                    break;
                case '=':
                    return a == b ? 1 : 0;
                case '<':
                    return a < b ? 1 : 0;
                case '>':
                    return a > b ? 1 : 0;
                case Reader.AND:
                    return a & b;
                default:
                    return a | b;
            }
            if (value > MOST_VALUE) {
                return MOST_VALUE;
            }
            return value < -MOST_VALUE ? -MOST_VALUE : (int) value;
        }
    }

    /** Cuts a text into TOKENS and reads them into a sheet; keeps the FAULT of the latest one. */
    private static final class Reader {
        /** The words that a law may ask for stand first: their places are those in Bars.seen. */
        private static final String WORDS =
                "who temper piece bar want draw last store desk player glad may slips up down has owes or and not ";
        static final int WHO = 0;
        static final int TEMPER = 1;
        static final int PIECE = 2;
        static final int BAR = 3;
        static final int WANT = 4;
        static final int DRAW = 5;
        static final int LAST = 6;
        static final int STORE = 7;
        static final int ASKED = 8;

        /** TOKENS: signs are as in the text; what else there is must not be like one of them. */
        private static final int END = 1;
        private static final int BAD = 2;
        private static final int NUMBER = 3;
        private static final int OTHER_WORD = 4;
        private static final int FIRST_WORD = 200;
        private static final int DESK = FIRST_WORD + 8;
        private static final int PLAYER = FIRST_WORD + 9;
        private static final int GLAD = FIRST_WORD + 10;
        private static final int MAY = FIRST_WORD + 11;
        private static final int SLIPS = FIRST_WORD + 12;
        private static final int UP = FIRST_WORD + 13;
        private static final int DOWN = FIRST_WORD + 14;
        private static final int HAS = FIRST_WORD + 15;
        private static final int OWES = FIRST_WORD + 16;
        static final int OR = FIRST_WORD + 17;
        static final int AND = FIRST_WORD + 18;
        static final int NOT_WORD = FIRST_WORD + 19;

        private static final int TRUTH = 0;
        private static final int BOTH = 1;
        private static final int SUM = 2;
        private static final int PRODUCT = 3;
        private static final int MOST_WITHIN = 6;

        int faultKind = 0;
        int faultPlace = NONE;
        private final int[] kinds = new int[MOST_BYTES + 1];
        private final int[] values = new int[MOST_BYTES + 1];
        private final int[] places = new int[MOST_BYTES + 1];
        private int tokens = 0;
        private int at = 0;
        private byte[] text = new byte[0];
        private int length = 0;
        private Sheet sheet = null;
        private Law law = null;

        /** False: there is a FAULT, and the sheet is of no use. */
        boolean read(byte[] tape, int n, Sheet into) {
            text = tape;
            length = Math.min(n, tape.length);
            sheet = into;
            sheet.clear();
            at = 0;
            faultKind = 0;
            faultPlace = NONE;
            cut();
            if (!take(DESK) || !take(';')) {
                return false;
            }
            sheet.lines = 1;
            for (int i = 0; i < MOST_BYTES && kind() != END; i++) {
                if (!readLine() || !take(';')) {
                    return false;
                }
                sheet.lines++;
            }
            return true;
        }

        /** Nothing behind a sign that begins no TOKEN can be the first FAULT, so it is the last one cut. */
        private void cut() {
            tokens = 0;
            int from = 0;
            for (int i = 0; i < length && from < length; i++) {
                int sign = signAt(from);
                int to = from + 1;
                if (isLetter(sign)) {
                    to = endOfLetters(from);
                    addToken(wordAt(from, to), 0, from);
                } else if (isDigit(sign)) {
                    to = endOfDigits(from);
                    addToken(to - from > 3 ? BAD : NUMBER, numberAt(from, to), from);
                } else if (sign != ' ' && sign != 10) {
                    addToken(isSign(sign) ? sign : BAD, 0, from);
                }
                from = to;
            }
            addToken(END, 0, length);
        }

        private void addToken(int kind, int value, int place) {
            if (tokens < kinds.length) {
                kinds[tokens] = kind;
                values[tokens] = value;
                places[tokens] = place;
                tokens++;
            }
        }

        private int signAt(int place) {
            return place >= 0 && place < length ? text[place] & 255 : 0;
        }

        private static boolean isLetter(int sign) {
            return sign >= 'a' && sign <= 'z';
        }

        private static boolean isDigit(int sign) {
            return sign >= '0' && sign <= '9';
        }

        private static boolean isSign(int sign) {
            switch (sign) {
                case ';':
                case ':':
                case '+':
                case '-':
                case '*':
                case '(':
                case ')':
                case '[':
                case ']':
                case '=':
                case '<':
                case '>':
                    return true;
                default:
                    return false;
            }
        }

        private int endOfLetters(int from) {
            int to = from;
            while (to < length && isLetter(signAt(to))) {
                to++;
            }
            return to;
        }

        private int endOfDigits(int from) {
            int to = from;
            while (to < length && isDigit(signAt(to))) {
                to++;
            }
            return to;
        }

        private int numberAt(int from, int to) {
            int number = 0;
            for (int i = from; i < to && i < from + 3; i++) {
                number = 10 * number + signAt(i) - '0';
            }
            return number;
        }

        private int wordAt(int from, int to) {
            int word = 0;
            int alike = 0;
            boolean goesOn = true;
            for (int i = 0; i < WORDS.length(); i++) {
                char letter = WORDS.charAt(i);
                if (letter == ' ') {
                    if (goesOn && alike == to - from) {
                        return FIRST_WORD + word;
                    }
                    word++;
                    alike = 0;
                    goesOn = true;
                } else if (goesOn && alike < to - from && signAt(from + alike) == letter) {
                    alike++;
                } else {
                    goesOn = false;
                }
            }
            return OTHER_WORD;
        }

        private int kind() {
            return at < tokens ? kinds[at] : END;
        }

        private boolean faulty(int kind) {
            faultKind = kind;
            faultPlace = at < tokens ? places[at] : length;
            return false;
        }

        private boolean cannotStand() {
            return faulty(kind() == BAD ? 1 : 2);
        }

        private boolean take(int kind) {
            if (kind() != kind) {
                return cannotStand();
            }
            at++;
            return true;
        }

        /** The number that was taken is values[at - 1]. */
        private boolean takeNumber(int most) {
            if (kind() != NUMBER) {
                return cannotStand();
            }
            if (values[at] > most) {
                return faulty(3);
            }
            at++;
            return true;
        }

        private int taken() {
            return at > 0 && at <= tokens ? values[at - 1] : 0;
        }

        private boolean readLine() {
            switch (kind()) {
                case FIRST_WORD + PIECE:
                    return readPiece();
                case PLAYER:
                    return readPlayer();
                case GLAD:
                    return readLaw(sheet.gladLaw, SUM);
                case MAY:
                    return readLaw(sheet.mayLaw, TRUTH);
                case SLIPS:
                    at++;
                    if (!takeNumber(10)) {
                        return false;
                    }
                    sheet.slips = taken();
                    return true;
                default:
                    return cannotStand();
            }
        }

        private boolean readPiece() {
            if (sheet.pieces >= MOST_PIECES) {
                return faulty(4);
            }
            at++;
            sheet.pieces++;
            for (int i = 0; i <= MOST_BARS && (kind() == UP || kind() == DOWN); i++) {
                if (i == MOST_BARS) {
                    return faulty(4);
                }
                boolean up = kind() == UP;
                at++;
                if (!takeNumber(9)) {
                    return false;
                }
                sheet.addBar(up ? taken() : -taken());
            }
            return true;
        }

        private boolean readPlayer() {
            int p = sheet.players;
            if (p >= MOST_PLAYERS) {
                return faulty(4);
            }
            at++;
            sheet.players++;
            for (int i = 0; i < MOST_BYTES && isFlag(kind()); i++) {
                int flag = kind();
                at++;
                if (!takeNumber(flag == FIRST_WORD + TEMPER ? MOST_TEMPER : MOST_STORE)) {
                    return false;
                }
                if (flag == FIRST_WORD + TEMPER) {
                    sheet.temperaments[p] = taken();
                } else {
                    sheet.stores[p] = flag == HAS ? taken() : -taken();
                }
            }
            return true;
        }

        private static boolean isFlag(int kind) {
            return kind == HAS || kind == OWES || kind == FIRST_WORD + TEMPER;
        }

        private boolean readLaw(Law told, int level) {
            at++;
            law = told;
            law.clear();
            return take(':') && readChain(level, 0);
        }

        /** Parts of one level, joined from the left on; within: how many of not [ ( stand open around it. */
        private boolean readChain(int level, int within) {
            if (!readPart(level, within)) {
                return false;
            }
            for (int i = 0; i < MOST_BYTES && joins(level, kind()); i++) {
                int joint = kind();
                at++;
                if (!readPart(level, within)) {
                    return false;
                }
                law.add(Law.JOINT + joint);
            }
            return true;
        }

        private static boolean joins(int level, int kind) {
            switch (level) {
                case TRUTH:
                    return kind == OR;
                case BOTH:
                    return kind == AND;
                case SUM:
                    return kind == '+' || kind == '-';
                default:
                    return kind == '*';
            }
        }

        private boolean readPart(int level, int within) {
            switch (level) {
                case TRUTH:
                    return readChain(BOTH, within);
                case BOTH:
                    return readUnit(within);
                case SUM:
                    return readChain(PRODUCT, within);
                default:
                    return readAtom(within);
            }
        }

        private boolean readUnit(int within) {
            int first = kind();
            if (first != NOT_WORD && first != '[') {
                return readComparison(within);
            }
            if (within >= MOST_WITHIN) {
                return faulty(4);
            }
            at++;
            if (first == '[') {
                return readChain(TRUTH, within + 1) && take(']');
            }
            if (!readUnit(within + 1)) {
                return false;
            }
            law.add(Law.JOINT + NOT_WORD);
            return true;
        }

        private boolean readComparison(int within) {
            if (!readChain(SUM, within)) {
                return false;
            }
            int joint = kind();
            if (joint != '=' && joint != '<' && joint != '>') {
                return cannotStand();
            }
            at++;
            if (!readChain(SUM, within)) {
                return false;
            }
            law.add(Law.JOINT + joint);
            return true;
        }

        private boolean readAtom(int within) {
            int first = kind();
            if (first == '(') {
                if (within >= MOST_WITHIN) {
                    return faulty(4);
                }
                at++;
                return readChain(SUM, within + 1) && take(')');
            }
            if (first >= FIRST_WORD && first < FIRST_WORD + ASKED) {
                at++;
                law.add(Law.WORD + first - FIRST_WORD);
                return true;
            }
            if (!takeNumber(999)) {
                return false;
            }
            law.add(taken());
            return true;
        }
    }

    /** All that a call can change and undo() brings back. */
    private static final class State {
        private static final int MOST_JOY = 9999999;

        final int[] stores = new int[MOST_PLAYERS];
        final int[] joys = new int[MOST_PLAYERS];
        final int[] temperaments = new int[MOST_PLAYERS];
        int barred = 0;
        int week = 0;

        void begin(Sheet sheet) {
            System.arraycopy(sheet.stores, 0, stores, 0, MOST_PLAYERS);
            System.arraycopy(sheet.temperaments, 0, temperaments, 0, MOST_PLAYERS);
            Arrays.fill(joys, 0);
            barred = 0;
            week = 0;
        }

        void copy(State other) {
            System.arraycopy(other.stores, 0, stores, 0, MOST_PLAYERS);
            System.arraycopy(other.joys, 0, joys, 0, MOST_PLAYERS);
            System.arraycopy(other.temperaments, 0, temperaments, 0, MOST_PLAYERS);
            barred = other.barred;
            week = other.week;
        }

        boolean isBarred(int p) {
            return (barred >> p & 1) != 0;
        }

        void addJoy(int p, int gladness) {
            int joy = joys[p] + gladness;
            joys[p] = Math.max(-MOST_JOY, Math.min(MOST_JOY, joy));
        }

        int allStores() {
            int all = 0;
            for (int store : stores) {
                all += store;
            }
            return all;
        }

        int allJoy() {
            int all = 0;
            for (int joy : joys) {
                all += joy;
            }
            return all;
        }
    }

    /** The states ahead of the latest calls that did some, in a ring: a new one takes the eldest's place. */
    private static final class History {
        int size = 0;
        private final State[] ring = new State[MOST_UNDONE];
        private int following = 0;

        History() {
            for (int i = 0; i < ring.length; i++) {
                ring[i] = new State();
            }
        }

        void clear() {
            size = 0;
        }

        void keep(State ahead) {
            ring[following].copy(ahead);
            following = (following + 1) % MOST_UNDONE;
            size = Math.min(size + 1, MOST_UNDONE);
        }

        void bringBack(State now) {
            if (size > 0) {
                following = (following + MOST_UNDONE - 1) % MOST_UNDONE;
                now.copy(ring[following]);
                size--;
            }
        }
    }

    /** Numbers of one sort; they are kept as they are once cut. */
    private static final class Tray {
        private static final int NO_SIZE = -1;

        int size = NO_SIZE;
        private int sort = 0;
        private final long[] kept = new long[MOST_NUMBERS];

        boolean isMissing() {
            return size == NO_SIZE;
        }

        void begin(int newSort, int n) {
            sort = newSort;
            size = Math.max(0, Math.min(n, MOST_NUMBERS));
            Arrays.fill(kept, 0);
        }

        long at(int i) {
            return i >= 0 && i < size ? kept[i] : 0;
        }

        void put(int i, long v) {
            if (i >= 0 && i < size) {
                kept[i] = cut(v);
            }
        }

        private long cut(long v) {
            switch (sort) {
                case 0:
                    return (byte) v;
                case 1:
                    return (short) v;
                case 2:
                    return (int) v;
                default:
                    return v;
            }
        }
    }

    /**
     * One PLAYER with one PIECE before it, BAR by BAR. A law is worked out once for all that it can see and then
     * kept; what was kept for another one, or another desk, is told apart by its stamp and need not be wiped.
     */
    private static final class Bars {
        private static final int NO_KEY = -1;

        int length = 0;
        /** Whether the laws ask for how the BAR ahead was DRAWN: if not, such states are one and the same. */
        boolean byLast = false;
        Sheet sheet;
        private boolean byStore = false;
        private boolean byWho = false;
        private boolean byTemper = false;
        private int piece = 0;
        private final int[] seen = new int[Reader.ASKED];
        private final int[] stack = new int[Law.MOST_OPEN];
        private final long[][] cells = new long[MOST_PIECES][];
        private final int[] keys = new int[MOST_PIECES];
        private final int[] stamps = new int[MOST_PIECES];
        private int latestStamp = 0;
        private long[] known = new long[0];
        private int stamp = 0;

        Bars(Sheet empty) {
            sheet = empty;
            Arrays.fill(keys, NO_KEY);
        }

        void useSheet(Sheet used) {
            sheet = used;
            length = 0;
            byLast = asksFor(Reader.LAST);
            byStore = asksFor(Reader.STORE);
            byWho = asksFor(Reader.WHO);
            byTemper = asksFor(Reader.TEMPER);
            Arrays.fill(keys, NO_KEY);
        }

        private boolean asksFor(int word) {
            return sheet.gladLaw.asksFor(word) || sheet.mayLaw.asksFor(word);
        }

        /** The PLAYER and the PIECE are there; the temper need not be the one that it has. */
        void takeUp(int who, int temper, int newPiece) {
            if (newPiece < 0 || newPiece >= MOST_PIECES) {
                return;
            }
            piece = newPiece;
            length = sheet.barsOf(piece);
            seen[Reader.WHO] = who;
            seen[Reader.TEMPER] = temper;
            seen[Reader.PIECE] = piece;
            int needed = cellOf(MOST_BARS, -MOST_STORE, -MOST_DRAW, -MOST_DRAW);
            if (cells[piece] == null || cells[piece].length < needed) {
                cells[piece] = new long[needed];
            }
            int key = (byWho ? who : 0) * (MOST_TEMPER + 1) + (byTemper ? temper : 0);
            if (keys[piece] != key) {
                keys[piece] = key;
                latestStamp++;
                stamps[piece] = latestStamp;
            }
            known = cells[piece];
            stamp = stamps[piece];
        }

        int gladBy(int bar, int store, int last, int draw) {
            see(bar, store, last, draw);
            return sheet.gladLaw.isTold() ? sheet.gladLaw.valueOf(seen, stack) : seen[Reader.WANT] * draw;
        }

        /** How GLAD a BAR makes the one before it, NOT if it may not be DRAWN out so. */
        int gladAt(int bar, int store, int last, int draw) {
            int behind = store - draw;
            int cell = cellOf(bar, store, last, draw);
            if (behind < -MOST_STORE || behind > MOST_STORE || cell < 0 || cell >= known.length) {
                return NOT;
            }
            long found = known[cell];
            if ((int) (found >>> 32) == stamp) {
                return (int) found;
            }
            see(bar, store, last, draw);
            int gladness = seen[Reader.WANT] * draw;
            if (sheet.mayLaw.isTold() && sheet.mayLaw.valueOf(seen, stack) == 0) {
                gladness = NOT;
            } else if (sheet.gladLaw.isTold()) {
                gladness = sheet.gladLaw.valueOf(seen, stack);
            }
            known[cell] = (long) stamp << 32 | gladness & 0xFFFFFFFFL;
            return gladness;
        }

        /** What the laws don't ask for needs no cells of its own. */
        private int cellOf(int bar, int store, int last, int draw) {
            int cell = bar;
            if (byStore) {
                cell = cell * STORES + store + MOST_STORE;
            }
            if (byLast) {
                cell = cell * DRAWS + last + MOST_DRAW;
            }
            return cell * DRAWS + draw + MOST_DRAW;
        }

        private void see(int bar, int store, int last, int draw) {
            seen[Reader.BAR] = bar;
            int place = piece * MOST_BARS + bar;
            seen[Reader.WANT] = place >= 0 && place < sheet.wanted.length ? sheet.wanted[place] : 0;
            seen[Reader.DRAW] = draw;
            seen[Reader.LAST] = last;
            seen[Reader.STORE] = store;
        }

        /** By how much a BAR is DRAWN out as it comes, NOT_PLAYED: it breaks off there. */
        int comingDraw(int bar, int store, int last) {
            int most = NOT;
            int found = NOT_PLAYED;
            for (int draw = -MOST_DRAW; draw <= MOST_DRAW; draw++) {
                int gladness = gladAt(bar, store, last, draw);
                if (gladness > most) {
                    most = gladness;
                    found = draw;
                }
            }
            return found;
        }

        int lastBehind(int draw) {
            return byLast ? draw : 0;
        }

        /** How far from 0 that which the BAR ahead was DRAWN out by can be. */
        int lastsAt(int bar) {
            return byLast && bar > 0 ? MOST_DRAW : 0;
        }

        static int placeOf(int store, int last) {
            return (store + MOST_STORE) * DRAWS + last + MOST_DRAW;
        }

        static int storeOf(int place) {
            return place / DRAWS - MOST_STORE;
        }

        static int lastOf(int place) {
            return place % DRAWS - MOST_DRAW;
        }
    }

    /** A PIECE AS IT COMES, and how likely it is to come so for one who slips. */
    private static final class Course {
        int gladness = 0;
        int end = 0;
        int brokeAt = NONE;
        private final Bars playing;
        private final int[] draws = new int[MOST_BARS];
        private long[] here = new long[STATES];
        private long[] behind = new long[STATES];

        Course(Bars bars) {
            playing = bars;
        }

        void run(int store) {
            Arrays.fill(draws, NOT_PLAYED);
            gladness = 0;
            end = store;
            brokeAt = NONE;
            int last = 0;
            for (int bar = 0; bar < playing.length && bar < MOST_BARS; bar++) {
                int draw = playing.comingDraw(bar, end, last);
                if (draw == NOT_PLAYED) {
                    brokeAt = bar;
                    return;
                }
                gladness += playing.gladAt(bar, end, last, draw);
                draws[bar] = draw;
                end -= draw;
                last = draw;
            }
        }

        int drawOf(int bar) {
            return bar >= 0 && bar < MOST_BARS ? draws[bar] : NOT_PLAYED;
        }

        /** Whether it goes to the end, by such draws alone. */
        boolean isWithin(int[] allowed) {
            boolean within = brokeAt == NONE;
            for (int bar = 0; bar < playing.length && bar < allowed.length && within; bar++) {
                within = (allowed[bar] & bitOf(drawOf(bar))) != 0;
            }
            return within;
        }

        /** Each BAR goes on in ten ways, some of them slips: how many in all. */
        long allChances() {
            long all = 1;
            for (int bar = 0; bar < playing.length && bar < MOST_BARS; bar++) {
                all *= 10;
            }
            return all;
        }

        /** In how many of these it goes to the end with a STORE of the GOAL at least. */
        long chances(int store, int goal) {
            Arrays.fill(here, 0);
            here[Bars.placeOf(store, 0)] = 1;
            for (int bar = 0; bar < playing.length; bar++) {
                slipAt(bar);
            }
            long all = 0;
            for (int place = Bars.placeOf(goal, -MOST_DRAW); place < STATES; place++) {
                all += here[place];
            }
            return all;
        }

        private void slipAt(int bar) {
            Arrays.fill(behind, 0);
            int slips = playing.sheet.slips;
            for (int place = 0; place < STATES; place++) {
                int store = Bars.storeOf(place);
                int last = Bars.lastOf(place);
                int draw = here[place] == 0 ? NOT_PLAYED : playing.comingDraw(bar, store, last);
                if (draw != NOT_PLAYED) {
                    boolean more = draw < MOST_DRAW && playing.gladAt(bar, store, last, draw + 1) != NOT;
                    int slip = more ? draw + 1 : draw;
                    behind[Bars.placeOf(store - draw, playing.lastBehind(draw))] += here[place] * (10 - slips);
                    behind[Bars.placeOf(store - slip, playing.lastBehind(slip))] += here[place] * slips;
                }
            }
            long[] swapped = here;
            here = behind;
            behind = swapped;
        }
    }

    /** All ROWS of a PIECE at once, by the STORE and the draw behind each BAR. */
    private static final class Ways {
        final int[] row = new int[MOST_BARS];
        final int[] every = new int[MOST_BARS];
        int gladness = 0;
        private int end = 0;
        private final Bars playing;
        private final int[] most = new int[(MOST_BARS + 1) * STATES];
        private final byte[] firstDraws = new byte[MOST_BARS * STATES];
        private int[] here = new int[STATES];
        private int[] behind = new int[STATES];
        private long[] rowsHere = new long[STATES];
        private long[] rowsBehind = new long[STATES];

        Ways(Bars bars) {
            playing = bars;
            Arrays.fill(every, EVERY_DRAW);
        }

        /** The greatest GLADNESS from each BAR on to a STORE of the GOAL at least, begun with STORES low to high. */
        void settle(int low, int high, int goal, int[] allowed) {
            int bars = Math.min(playing.length, MOST_BARS);
            for (int place = 0; place < STATES; place++) {
                most[bars * STATES + place] = Bars.storeOf(place) >= goal ? 0 : NOT;
            }
            for (int bar = bars - 1; bar >= 0; bar--) {
                int lasts = playing.lastsAt(bar);
                int lowest = Math.max(-MOST_STORE, low - bar * MOST_DRAW);
                int highest = Math.min(MOST_STORE, high + bar * MOST_DRAW);
                for (int store = lowest; store <= highest; store++) {
                    for (int last = -lasts; last <= lasts; last++) {
                        settleAt(bar, store, last, allowed[bar]);
                    }
                }
            }
        }

        /** The first of the best draws is kept, so that following them gives the first of the best ROWS. */
        private void settleAt(int bar, int store, int last, int allowed) {
            int found = NOT;
            int first = NOT_PLAYED;
            for (int draw = -MOST_DRAW; draw <= MOST_DRAW; draw++) {
                int own = (allowed & bitOf(draw)) == 0 ? NOT : playing.gladAt(bar, store, last, draw);
                if (own != NOT) {
                    int rest = most[(bar + 1) * STATES + Bars.placeOf(store - draw, playing.lastBehind(draw))];
                    if (rest != NOT && own + rest > found) {
                        found = own + rest;
                        first = draw;
                    }
                }
            }
            int place = bar * STATES + Bars.placeOf(store, last);
            most[place] = found;
            firstDraws[place] = (byte) first;
        }

        int mostFrom(int store) {
            return most[Bars.placeOf(store, 0)];
        }

        /** The first ROW of those that are settled best; false: there is none. */
        boolean follow(int store) {
            gladness = mostFrom(store);
            if (gladness == NOT) {
                return false;
            }
            Arrays.fill(row, NOT_PLAYED);
            end = store;
            int last = 0;
            for (int bar = 0; bar < playing.length && bar < MOST_BARS; bar++) {
                int draw = firstDraws[bar * STATES + Bars.placeOf(end, last)];
                row[bar] = draw;
                end -= draw;
                last = playing.lastBehind(draw);
            }
            return true;
        }

        int tell(int what) {
            if (what < FIRST_BAR_ASKED) {
                return what == 0 ? gladness : end;
            }
            int bar = what - FIRST_BAR_ASKED;
            return bar < MOST_BARS ? row[bar] : NOT_PLAYED;
        }

        /** From the greatest GLADNESS by each STORE ahead of a PIECE to that behind it; both may be one array. */
        void spread(int[] from, int[] to) {
            Arrays.fill(here, NOT);
            for (int i = 0; i < STORES && i < from.length; i++) {
                here[Bars.placeOf(i - MOST_STORE, 0)] = from[i];
            }
            for (int bar = 0; bar < playing.length; bar++) {
                spreadBar(bar);
            }
            Arrays.fill(to, NOT);
            for (int place = 0; place < STATES && place / DRAWS < to.length; place++) {
                to[place / DRAWS] = Math.max(to[place / DRAWS], here[place]);
            }
        }

        private void spreadBar(int bar) {
            Arrays.fill(behind, NOT);
            for (int place = 0; place < STATES; place++) {
                int store = Bars.storeOf(place);
                int last = Bars.lastOf(place);
                for (int draw = -MOST_DRAW; draw <= MOST_DRAW && here[place] != NOT; draw++) {
                    int own = playing.gladAt(bar, store, last, draw);
                    if (own != NOT) {
                        int then = Bars.placeOf(store - draw, playing.lastBehind(draw));
                        behind[then] = Math.max(behind[then], here[place] + own);
                    }
                }
            }
            int[] swapped = here;
            here = behind;
            behind = swapped;
        }

        /** ROWS by allowed draws alone behind which the STORE is so much, or any. */
        long howMany(int store, int endAsked, int[] allowed) {
            Arrays.fill(rowsHere, 0);
            rowsHere[Bars.placeOf(store, 0)] = 1;
            for (int bar = 0; bar < playing.length && bar < allowed.length; bar++) {
                countBar(bar, allowed[bar]);
            }
            long all = 0;
            for (int place = 0; place < STATES; place++) {
                if (endAsked == ANY_END || Bars.storeOf(place) == endAsked) {
                    all += rowsHere[place];
                }
            }
            return all;
        }

        private void countBar(int bar, int allowed) {
            Arrays.fill(rowsBehind, 0);
            for (int place = 0; place < STATES; place++) {
                int store = Bars.storeOf(place);
                int last = Bars.lastOf(place);
                for (int draw = -MOST_DRAW; draw <= MOST_DRAW && rowsHere[place] != 0; draw++) {
                    if ((allowed & bitOf(draw)) != 0 && playing.gladAt(bar, store, last, draw) != NOT) {
                        rowsBehind[Bars.placeOf(store - draw, playing.lastBehind(draw))] += rowsHere[place];
                    }
                }
            }
            long[] swapped = rowsHere;
            rowsHere = rowsBehind;
            rowsBehind = swapped;
        }
    }

    /** Some PIECES one behind the other, by the greatest GLADNESS for each STORE behind them. */
    private static final class Orders {
        int gladness = NOT;
        private final Bars playing;
        private final Ways ways;
        private final int[][] ends = new int[1 << MOST_PIECES][STORES];
        private final int[] tried = new int[STORES];
        private final int[] trail = new int[MOST_PIECES];
        private final int[] found = new int[MOST_PIECES];
        private int p = 0;
        private int temperament = 0;

        Orders(Bars bars, Ways allWays) {
            playing = bars;
            ways = allWays;
        }

        private void begin(int who, State now) {
            p = who;
            temperament = now.temperaments[who];
            Arrays.fill(ends[0], NOT);
            ends[0][now.stores[who] + MOST_STORE] = 0;
        }

        /** AN ORDER of the set, gladness NOT: there is none. */
        void find(int who, State now, int set, int goal) {
            begin(who, now);
            gladness = NOT;
            Arrays.fill(found, NONE);
            Arrays.fill(trail, NONE);
            search(set, 0, goal);
        }

        int pieceAt(int place) {
            return place >= 0 && place < MOST_PIECES ? found[place] : NONE;
        }

        /** Orders come by PIECES, so of like ones the first stays. */
        private void search(int rest, int depth, int goal) {
            if (rest == 0) {
                int most = mostFrom(ends[depth], goal);
                if (most > gladness) {
                    gladness = most;
                    System.arraycopy(trail, 0, found, 0, MOST_PIECES);
                }
                return;
            }
            for (int piece = 0; piece < MOST_PIECES && depth < MOST_PIECES; piece++) {
                if ((rest >> piece & 1) != 0) {
                    trail[depth] = piece;
                    playing.takeUp(p, temperament, piece);
                    ways.spread(ends[depth], ends[depth + 1]);
                    search(rest & ~(1 << piece), depth + 1, goal);
                }
            }
        }

        private static int mostFrom(int[] byStore, int goal) {
            int most = NOT;
            for (int i = goal + MOST_STORE; i < byStore.length; i++) {
                most = Math.max(most, byStore[i]);
            }
            return most;
        }

        int largestSet(int who, State now, int goal) {
            begin(who, now);
            int largest = 0;
            int sets = 1 << Math.min(playing.sheet.pieces, MOST_PIECES);
            for (int set = 1; set < sets; set++) {
                gather(set);
                boolean can = mostFrom(ends[set], goal) != NOT;
                if (can && Integer.bitCount(set) > Integer.bitCount(largest)) {
                    largest = set;
                }
            }
            return largest;
        }

        /** The ends of a set by those of the sets without the PIECE that is played last. */
        private void gather(int set) {
            Arrays.fill(ends[set], NOT);
            for (int piece = 0; piece < MOST_PIECES; piece++) {
                if ((set >> piece & 1) != 0) {
                    playing.takeUp(p, temperament, piece);
                    ways.spread(ends[set & ~(1 << piece)], tried);
                    for (int i = 0; i < STORES; i++) {
                        ends[set][i] = Math.max(ends[set][i], tried[i]);
                    }
                }
            }
        }
    }

    /** DEEDS change a state, or answer why not: 1 to 3. */
    private static final class Deeds {
        /** Of the PIECE that was played last. */
        int gladness = 0;
        private final Bars playing;
        private final Course course;
        private final Ways ways;
        private int seed = 0;

        Deeds(Bars bars, Course asItComes, Ways allWays) {
            playing = bars;
            course = asItComes;
            ways = allWays;
        }

        int playComing(State state, int p, int piece) {
            int why = whyNotPlay(state, p, piece);
            if (why != 0) {
                return why;
            }
            playing.takeUp(p, state.temperaments[p], piece);
            course.run(state.stores[p]);
            gladness = course.gladness;
            state.stores[p] = course.end;
            state.addJoy(p, gladness);
            return 0;
        }

        int playBest(State state, int p, int piece) {
            int why = whyNotPlay(state, p, piece);
            if (why != 0) {
                return why;
            }
            playing.takeUp(p, state.temperaments[p], piece);
            int store = state.stores[p];
            ways.settle(store, store, -MOST_STORE, ways.every);
            if (!ways.follow(store)) {
                return 3;
            }
            gladness = ways.gladness;
            state.stores[p] = ways.end;
            state.addJoy(p, gladness);
            return 0;
        }

        private int whyNotPlay(State state, int p, int piece) {
            if (!playing.sheet.hasPlayer(p) || !playing.sheet.hasPiece(piece)) {
                return 1;
            }
            return state.isBarred(p) ? 2 : 0;
        }

        int lendTicks(State state, int p, int q, int ticks) {
            boolean there = playing.sheet.hasPlayer(p) && playing.sheet.hasPlayer(q) && p != q;
            if (!there || ticks < 1 || ticks > MOST_TICKS) {
                return 1;
            }
            if (state.stores[p] - ticks < -MOST_STORE || state.stores[q] + ticks > MOST_STORE) {
                return 3;
            }
            state.stores[p] -= ticks;
            state.stores[q] += ticks;
            return 0;
        }

        int haveTemper(State state, int p, int n) {
            if (!playing.sheet.hasPlayer(p) || n < 0 || n > MOST_TEMPER) {
                return 1;
            }
            state.temperaments[p] = n;
            return 0;
        }

        int holdFriday(State state) {
            state.barred = 0;
            for (int p = 0; p < state.stores.length; p++) {
                if (state.stores[p] < 0) {
                    state.barred |= 1 << p;
                }
            }
            state.week++;
            return 0;
        }

        /** A DEED as a TRAY tells it. */
        int doTold(State state, long told) {
            if (told == NONE) {
                return holdFriday(state);
            }
            if (told < 0 || told > 9999) {
                return 1;
            }
            int v = (int) told;
            if (v < 100) {
                return playComing(state, v / 10, v % 10);
            }
            if (v < 200) {
                return playBest(state, v / 10 - 10, v % 10);
            }
            return v < 1000 ? 1 : lendTicks(state, v / 1000 - 1, v / 100 % 10, v % 100);
        }

        void sow(int newSeed) {
            seed = newSeed;
        }

        private int drawn(int modulo) {
            seed = 1103515245 * seed + 12345;
            return modulo > 0 ? (seed >>> 16) % modulo : 0;
        }

        /** A DEED of a TERM; its draws are made whether it can be or not. */
        int doDrawn(State state) {
            int sort = drawn(5);
            if (sort == 0) {
                return holdFriday(state);
            }
            int p = drawn(5);
            if (sort == 4) {
                return haveTemper(state, p, drawn(10));
            }
            int other = drawn(5);
            if (sort == 3) {
                return lendTicks(state, p, other, 1 + drawn(9));
            }
            return sort == 1 ? playComing(state, p, other) : playBest(state, p, other);
        }
    }
}
