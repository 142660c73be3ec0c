/**
 * A few ladders carried to wherever one is called for next.
 * What each method answers and refuses is told in the project's document, promise by promise.
 */
public final class LadderCalls {
    public static final int BAD = -1, STATE = -2, FULL = -3, NONE = -9, NULL = -11, INDEX = -12, CAST = -13, SIZE = -15;

    private static final int MOST_PLACES = 6;
    private static final int MOST_ROADS = 15;
    private static final int LONGEST_ROAD = 100;
    private static final int MOST_LADDERS = 3;
    private static final int MOST_CALLS = 12;
    private static final int MOST_BOOKS = 3;
    private static final int MOST_ROWS = 4;
    private static final int MOST_NUMBERS = 8;
    private static final int LONGEST_WORST = 3;

    private static final int NEAR = 0, EVEN = 1, TURN = 2, AHEAD = 3;
    private static final int BYTES = 0, SHORTS = 1, INTS = 2, LONGS = 3;

    /** Numbers of three digits of 8: all that can tell a STAND. */
    private static final int STAND_NUMBERS = 512;
    /** STANDS of 3 LADDERS at 6 PLACES, those that are LIKE counted once. */
    private static final int MOST_STANDS = 56;
    /** Above every length of ways, and so low that three of it still fit an int. */
    private static final int FAR = 1000000;

    private final Town town;
    private final Stands stands;
    private final Day day;
    /** The rows of worst() are played here, so that the day itself stays as it is. */
    private final Day trial;
    private final Planner planner;
    private final Rules rules;
    private final Book[] books;
    private int kind;
    private int status;

    public LadderCalls() {
        town = new Town();
        stands = new Stands(town);
        day = new Day(town, stands, MOST_CALLS);
        trial = new Day(town, stands, LONGEST_WORST);
        planner = new Planner(town, stands);
        rules = new Rules();
        books = new Book[MOST_BOOKS];
        for (int i = 0; i < books.length; i++) {
            books[i] = new Book();
        }
        kind = NEAR;
        status = 0;
    }

    // ---- places

    public int place() {
        if (day.isOn()) {
            return STATE;
        }
        if (town.places >= MOST_PLACES) {
            return FULL;
        }
        return town.addPlace();
    }

    public int road(int a, int b, int length) {
        int why = whyNoRoad(a, b, length);
        return why != 0 ? why : town.addRoad(a, b, length);
    }

    public int apart(int a, int b) {
        if (!town.has(a) || !town.has(b)) {
            return BAD;
        }
        int gap = town.gap(a, b);
        return gap < FAR ? gap : NONE;
    }

    public int way(int a, int b) {
        if (!town.has(a) || !town.has(b)) {
            return BAD;
        }
        return town.next(a, b);
    }

    private int whyNoRoad(int a, int b, int length) {
        if (!town.has(a) || !town.has(b) || a == b) {
            return BAD;
        }
        if (length < 1 || length > LONGEST_ROAD) {
            return BAD;
        }
        if (day.isOn()) {
            return STATE;
        }
        return town.roads >= MOST_ROADS ? FULL : 0;
    }

    // ---- a day

    public int begin(int n, int stand) {
        if (n < 1 || n > MOST_LADDERS || !town.hasAll(stand, n)) {
            return BAD;
        }
        if (town.isTorn()) {
            return STATE;
        }
        stands.layOut(n);
        day.start(stand);
        return 1;
    }

    public int end() {
        if (!day.isOn()) {
            return STATE;
        }
        int calls = day.calls;
        day.stop();
        return calls;
    }

    public int rule(int kind) {
        if (kind < NEAR || kind > AHEAD) {
            return BAD;
        }
        int was = this.kind;
        this.kind = kind;
        return was;
    }

    public int call(int place) {
        int why = whyNoCall(place);
        return why != 0 ? why : serve(day, place);
    }

    public int back() {
        if (day.calls <= 0) {
            return STATE;
        }
        day.takeBack();
        return day.calls;
    }

    public int cruel() {
        if (!day.isOn()) {
            return STATE;
        }
        int place = day.firstBare();
        if (!town.has(place)) {
            return STATE;
        }
        if (day.calls >= MOST_CALLS) {
            return FULL;
        }
        serve(day, place);
        return place;
    }

    public int ask(int place) {
        if (!town.has(place)) {
            return BAD;
        }
        if (!day.isOn()) {
            return STATE;
        }
        day.hear(place);
        return rules.pick(kind, day);
    }

    public int stand() {
        return day.isOn() ? day.standNow() : STATE;
    }

    public int told(int i, int what) {
        return day.recorded(i, what);
    }

    public int cost(int ladder) {
        if (!day.isOn()) {
            return STATE;
        }
        if (ladder < -1 || ladder >= day.ladders) {
            return BAD;
        }
        return ladder == -1 ? day.paid() : day.walked(ladder);
    }

    private int whyNoCall(int place) {
        if (!town.has(place)) {
            return BAD;
        }
        if (!day.isOn()) {
            return STATE;
        }
        return day.calls >= MOST_CALLS ? FULL : 0;
    }

    private int serve(Day where, int place) {
        where.hear(place);
        int ladder = rules.pick(kind, where);
        where.send(ladder, kind);
        return ladder;
    }

    // ---- what would be least

    public int moves(int stand, int other) {
        if (!day.isOn()) {
            return STATE;
        }
        if (!stands.has(stand) || !stands.has(other)) {
            return BAD;
        }
        return stands.movingCost(stand, other);
    }

    public int work(int n, int stand) {
        if (!day.isOn()) {
            return STATE;
        }
        if (n < 0 || n > day.calls || !stands.has(stand)) {
            return BAD;
        }
        return day.works.of(n, stand);
    }

    public int least(int n) {
        if (!day.isOn()) {
            return STATE;
        }
        if (n < 0 || n > day.calls) {
            return BAD;
        }
        return day.works.lowest(n);
    }

    public int plan(int n, int i) {
        if (!day.isOn()) {
            return STATE;
        }
        if (n > day.calls || i < 0 || i >= n) {
            return BAD;
        }
        planner.look(day, n);
        return planner.goer(day, i);
    }

    public int ratio() {
        if (!day.isOn()) {
            return STATE;
        }
        int least = day.works.lowest(day.calls);
        return least == 0 ? NONE : 1000 * day.paid() / least;
    }

    public int worst(int n, int what) {
        if (!day.isOn()) {
            return STATE;
        }
        if (n < 1 || n > LONGEST_WORST || what < 0 || what > 2) {
            return BAD;
        }
        int row = 0;
        int cost = 0;
        int least = 0;
        int most = -1;
        trial.start(day.beginning);
        for (int number = 0; number < STAND_NUMBERS; number++) {
            if (!town.hasAll(number, n)) {
                continue;
            }
            tryRow(number, n);
            int paid = trial.paid();
            int lowest = trial.works.lowest(n);
            if (paid - lowest > most) {
                most = paid - lowest;
                row = number;
                cost = paid;
                least = lowest;
            }
        }
        return what == 0 ? row : what == 1 ? cost : least;
    }

    /** The first PLACE of a row is its highest digit, so that rows come in the order of their numbers. */
    private void tryRow(int number, int n) {
        trial.rewind();
        for (int i = n - 1; i >= 0; i--) {
            serve(trial, digit(number, i));
        }
    }

    // ---- books

    public int book(int book, int sort, int n) {
        if (!isBook(book) || sort < BYTES || sort > LONGS || n > MOST_ROWS) {
            return found(BAD);
        }
        if (n < 0) {
            return found(SIZE);
        }
        books[book].open(sort, n);
        return found(0);
    }

    public int row(int book, int r, int n) {
        if (!isBook(book) || n > MOST_NUMBERS) {
            return found(BAD);
        }
        Book it = books[book];
        if (!it.isThere()) {
            return found(NULL);
        }
        if (!it.hasRow(r)) {
            return found(INDEX);
        }
        if (n < 0) {
            return found(SIZE);
        }
        it.renew(r, n);
        return found(0);
    }

    public int put(int book, int sort, int r, int i, long v) {
        int why = whyNoNumber(book, sort, r, i);
        if (why == 0 && isBook(book)) {
            books[book].write(r, i, v);
        }
        return found(why);
    }

    public long item(int book, int sort, int r, int i) {
        int why = whyNoNumber(book, sort, r, i);
        found(why);
        return why == 0 && isBook(book) ? books[book].read(r, i) : 0L;
    }

    public int roads(int book) {
        if (!isBook(book)) {
            return found(BAD);
        }
        Book it = books[book];
        int why = it.isThere() ? 0 : NULL;
        int came = 0;
        for (int r = 0; why == 0 && r < it.rows; r++) {
            why = roadFrom(it, r);
            if (why == 0) {
                came++;
            }
        }
        status = why;
        return came;
    }

    public int calls(int book, int r) {
        if (!isBook(book)) {
            return found(BAD);
        }
        Book it = books[book];
        int why = it.whyNoRow(r);
        int came = 0;
        for (int i = 0; why == 0 && i < it.size(r); i++) {
            long number = it.read(r, i);
            why = fitsInt(number) ? whyNoCall((int) number) : BAD;
            if (why == 0) {
                serve(day, (int) number);
                came++;
            }
        }
        status = why;
        return came;
    }

    private static boolean isBook(int book) {
        return book >= 0 && book < MOST_BOOKS;
    }

    /** Keeps what status() tells; the answer of a call that only tells whether it was refused. */
    private int found(int why) {
        status = why;
        return why != 0 ? why : 1;
    }

    private int whyNoNumber(int book, int sort, int r, int i) {
        if (!isBook(book) || sort < BYTES || sort > LONGS) {
            return BAD;
        }
        Book it = books[book];
        if (!it.isThere()) {
            return NULL;
        }
        if (it.sort != sort) {
            return CAST;
        }
        int why = it.whyNoRow(r);
        if (why != 0) {
            return why;
        }
        return i < 0 || i >= it.size(r) ? INDEX : 0;
    }

    private int roadFrom(Book it, int r) {
        int why = it.whyNoRow(r);
        if (why != 0) {
            return why;
        }
        if (it.size(r) < 3) {
            return INDEX;
        }
        long a = it.read(r, 0);
        long b = it.read(r, 1);
        long length = it.read(r, 2);
        if (!fitsInt(a) || !fitsInt(b) || !fitsInt(length)) {
            return BAD;
        }
        why = whyNoRoad((int) a, (int) b, (int) length);
        if (why == 0) {
            town.addRoad((int) a, (int) b, (int) length);
        }
        return why;
    }

    private static boolean fitsInt(long v) {
        return v == (int) v;
    }

    // ---- what is told

    public int about(int what) {
        switch (what) {
            case 0: return town.places;
            case 1: return town.roads;
            case 2: return day.ladders;
            case 3: return day.calls;
            case 4: return kind;
            case 5: return town.isTorn() ? 1 : 0;
            default: return BAD;
        }
    }

    public long trace() {
        return rules.trace;
    }

    public int status() {
        return status;
    }

    // ---- numbers by digits of 8: LADDER 0, and the latest PLACE of a row, is the lowest digit

    private static int digit(int number, int i) {
        return (number >> (3 * i)) & 7;
    }

    private static int withDigit(int number, int i, int value) {
        return (number & ~(7 << (3 * i))) | (value << (3 * i));
    }

    /** The PLACES, the ROADS, and how far apart they lie. */
    private static final class Town {
        int places;
        int roads;
        private final int[][] links;
        private final int[][] gaps;

        Town() {
            places = 0;
            roads = 0;
            links = new int[MOST_PLACES][MOST_PLACES];
            gaps = new int[MOST_PLACES][MOST_PLACES];
            for (int i = 0; i < MOST_PLACES; i++) {
                for (int j = 0; j < MOST_PLACES; j++) {
                    links[i][j] = FAR;
                    gaps[i][j] = i == j ? 0 : FAR;
                }
            }
        }

        boolean has(int place) {
            return place >= 0 && place < places && place < MOST_PLACES;
        }

        /** Whether a number is n digits of 8, each a PLACE. */
        boolean hasAll(int number, int n) {
            if (number < 0 || number >> (3 * n) != 0) {
                return false;
            }
            for (int i = 0; i < n; i++) {
                if (!has(digit(number, i))) {
                    return false;
                }
            }
            return true;
        }

        int addPlace() {
            places++;
            return places - 1;
        }

        int addRoad(int a, int b, int length) {
            if (!has(a) || !has(b)) {
                return roads;
            }
            links[a][b] = Math.min(links[a][b], length);
            links[b][a] = links[a][b];
            for (int i = 0; i < MOST_PLACES; i++) {
                for (int j = 0; j < MOST_PLACES; j++) {
                    int there = gaps[i][a] + length + gaps[b][j];
                    int back = gaps[i][b] + length + gaps[a][j];
                    gaps[i][j] = Math.min(gaps[i][j], Math.min(there, back));
                }
            }
            roads++;
            return roads;
        }

        /** FAR also of what is no PLACE. */
        int gap(int a, int b) {
            if (a < 0 || a >= MOST_PLACES || b < 0 || b >= MOST_PLACES) {
                return FAR;
            }
            return gaps[a][b];
        }

        int next(int a, int b) {
            if (a == b) {
                return b;
            }
            int gap = gap(a, b);
            if (gap >= FAR || !has(a)) {
                return NONE;
            }
            for (int c = 0; c < MOST_PLACES; c++) {
                if (links[a][c] + gap(c, b) == gap) {
                    return c;
                }
            }
            return NONE;
        }

        /** ROADS lead both ways, so PLACE 0 without a way to one tells all. */
        boolean isTorn() {
            for (int i = 1; i < places; i++) {
                if (gap(0, i) >= FAR) {
                    return true;
                }
            }
            return false;
        }
    }

    /**
     * All STANDS of the day's LADDERS. What a STAND costs is the same for all that are LIKE,
     * so they share one slot, under the lowest of their numbers.
     */
    private static final class Stands {
        /** The first 1, 2, 6 of these triples are all orders of 1, 2, 3 LADDERS. */
        private static final int[] ORDERS = {0, 1, 2, 1, 0, 2, 0, 2, 1, 1, 2, 0, 2, 0, 1, 2, 1, 0};

        private final Town town;
        int ladders;
        int slots;
        private final int[] numbers;
        private final int[] slotOf;

        Stands(Town town) {
            this.town = town;
            ladders = 0;
            slots = 0;
            numbers = new int[MOST_STANDS];
            slotOf = new int[STAND_NUMBERS];
        }

        /** The lowest number comes first of those LIKE it, so its slot stands when the others ask. */
        void layOut(int n) {
            ladders = n;
            slots = 0;
            for (int number = 0; number < slotOf.length; number++) {
                slotOf[number] = -1;
                if (!town.hasAll(number, n)) {
                    continue;
                }
                int like = lowestLike(number);
                if (like < number && like >= 0) {
                    slotOf[number] = slotOf[like];
                } else if (slots < numbers.length) {
                    numbers[slots] = number;
                    slotOf[number] = slots;
                    slots++;
                }
            }
        }

        /** Digits of LADDERS that are not there are 0 and so stay the highest ones. */
        private static int lowestLike(int number) {
            int a = digit(number, 0);
            int b = digit(number, 1);
            int c = digit(number, 2);
            int high = Math.max(a, Math.max(b, c));
            int low = Math.min(a, Math.min(b, c));
            return high + 8 * (a + b + c - high - low) + 64 * low;
        }

        boolean has(int number) {
            return slot(number) >= 0;
        }

        int slot(int number) {
            return number >= 0 && number < slotOf.length ? slotOf[number] : -1;
        }

        int number(int slot) {
            return slot >= 0 && slot < slots && slot < numbers.length ? numbers[slot] : 0;
        }

        /** What it costs to move one STAND to another one. */
        int movingCost(int stand, int other) {
            int orders = ladders >= 3 ? 6 : ladders;
            int best = MOST_LADDERS * FAR;
            for (int order = 0; order < orders; order++) {
                int sum = 0;
                for (int i = 0; i < ladders && i < MOST_LADDERS; i++) {
                    int goal = ORDERS[3 * order + i];
                    sum += town.gap(digit(stand, i), digit(other, goal));
                }
                best = Math.min(best, sum);
            }
            return best;
        }
    }

    /** The WORK of every STAND, one row for each number of CALLS from 0 on. */
    private static final class Works {
        private final Town town;
        private final Stands stands;
        private final int[][] rows;
        /** The CALLS that the rows were made for; more perhaps than have come. */
        private final int[] heard;
        private int known;

        Works(Town town, Stands stands, int most) {
            this.town = town;
            this.stands = stands;
            rows = new int[most + 1][MOST_STANDS];
            heard = new int[most];
            known = 0;
        }

        void start(int beginning) {
            known = 0;
            for (int slot = 0; slot < stands.slots && slot < MOST_STANDS; slot++) {
                rows[0][slot] = stands.movingCost(beginning, stands.number(slot));
            }
        }

        /** CALL i is of a PLACE; a row that was made for just these CALLS is not made again. */
        void hear(int i, int place) {
            if (i < 0 || i >= heard.length || i > known) {
                return;
            }
            if (i < known && heard[i] == place) {
                return;
            }
            heard[i] = place;
            known = i + 1;
            for (int slot = 0; slot < stands.slots && slot < MOST_STANDS; slot++) {
                rows[i + 1][slot] = afterCall(rows[i], stands.number(slot), place);
            }
        }

        /**
         * APART is a distance, so it is never dearer that all but one LADDER are already where
         * they shall stand, and that one serves the CALL and then goes to its place.
         */
        private int afterCall(int[] before, int stand, int place) {
            int best = FAR;
            for (int ladder = 0; ladder < stands.ladders; ladder++) {
                int slot = stands.slot(withDigit(stand, ladder, place));
                if (slot >= 0 && slot < before.length) {
                    best = Math.min(best, before[slot] + town.gap(place, digit(stand, ladder)));
                }
            }
            return best;
        }

        int of(int n, int stand) {
            int slot = stands.slot(stand);
            if (n < 0 || n >= rows.length || slot < 0 || slot >= MOST_STANDS) {
                return FAR;
            }
            return rows[n][slot];
        }

        int lowest(int n) {
            int best = FAR;
            for (int slot = 0; slot < stands.slots; slot++) {
                best = Math.min(best, of(n, stands.number(slot)));
            }
            return best;
        }
    }

    /** The LADDERS, the CALLS, and all that back() must bring again. */
    private static final class Day {
        private final Town town;
        private final Stands stands;
        final Works works;
        int ladders;
        int calls;
        int beginning;
        /** The LADDER that went latest by a TURN that did not go up, or -1. */
        int turned;
        /** The CALL that was heard last; it has come only when a LADDER is sent. */
        int coming;
        private final int[] fars;
        private final int[] spots;
        private final int[] sums;
        private final int[] places;
        private final int[] goers;
        private final int[] ways;
        private final int[] kinds;
        private final int[] spotsBefore;
        private final int[] turnedBefore;

        Day(Town town, Stands stands, int most) {
            this.town = town;
            this.stands = stands;
            // ask() may hear of one CALL more than can come
            works = new Works(town, stands, most + 1);
            fars = new int[MOST_LADDERS];
            spots = new int[MOST_LADDERS];
            sums = new int[MOST_LADDERS];
            places = new int[most];
            goers = new int[most];
            ways = new int[most];
            kinds = new int[most];
            spotsBefore = new int[most];
            turnedBefore = new int[most];
            stop();
        }

        boolean isOn() {
            return ladders > 0;
        }

        void start(int stand) {
            ladders = stands.ladders;
            beginning = stand;
            works.start(stand);
            rewind();
        }

        /** As at THE BEGINNING; WORK that is known stays known. */
        void rewind() {
            calls = 0;
            coming = 0;
            turned = -1;
            for (int i = 0; i < MOST_LADDERS; i++) {
                spots[i] = digit(beginning, i);
                sums[i] = 0;
            }
        }

        void stop() {
            ladders = 0;
            beginning = 0;
            rewind();
        }

        void hear(int place) {
            coming = place;
            for (int i = 0; i < MOST_LADDERS; i++) {
                fars[i] = town.gap(spots[i], place);
            }
            works.hear(calls, place);
        }

        /** A LADDER goes to the CALL that was heard last. */
        void send(int ladder, int kind) {
            if (calls < 0 || calls >= places.length || ladder < 0 || ladder >= MOST_LADDERS) {
                return;
            }
            int far = far(ladder);
            places[calls] = coming;
            goers[calls] = ladder;
            ways[calls] = far;
            kinds[calls] = kind;
            spotsBefore[calls] = spots[ladder];
            turnedBefore[calls] = turned;
            // ROADS are at least 1 long: it is a way of 0 that tells that a TURN went up
            if (kind == TURN && far > 0) {
                turned = ladder;
            }
            sums[ladder] += far;
            spots[ladder] = coming;
            calls++;
        }

        void takeBack() {
            if (calls < 1 || calls > places.length) {
                return;
            }
            calls--;
            int ladder = goers[calls];
            if (ladder >= 0 && ladder < MOST_LADDERS) {
                sums[ladder] -= ways[calls];
                spots[ladder] = spotsBefore[calls];
            }
            turned = turnedBefore[calls];
        }

        int standNow() {
            int stand = 0;
            for (int i = 0; i < ladders && i < MOST_LADDERS; i++) {
                stand = withDigit(stand, i, spots[i]);
            }
            return stand;
        }

        /** How far a LADDER is from the CALL that was heard last. */
        int far(int ladder) {
            return ladder >= 0 && ladder < MOST_LADDERS ? fars[ladder] : FAR;
        }

        int walked(int ladder) {
            return ladder >= 0 && ladder < MOST_LADDERS ? sums[ladder] : 0;
        }

        int paid() {
            int sum = 0;
            for (int i = 0; i < MOST_LADDERS; i++) {
                sum += sums[i];
            }
            return sum;
        }

        int placeOf(int i) {
            return i >= 0 && i < calls && i < places.length ? places[i] : 0;
        }

        int recorded(int i, int what) {
            if (i < 0 || i >= calls || i >= places.length) {
                return BAD;
            }
            switch (what) {
                case 0: return places[i];
                case 1: return goers[i];
                case 2: return ways[i];
                case 3: return kinds[i];
                default: return BAD;
            }
        }

        boolean isCovered(int place) {
            for (int i = 0; i < ladders && i < MOST_LADDERS; i++) {
                if (spots[i] == place) {
                    return true;
                }
            }
            return false;
        }

        /** The first PLACE without a LADDER; the number behind the last one, if all have one. */
        int firstBare() {
            int place = 0;
            while (place < town.places && isCovered(place)) {
                place++;
            }
            return place;
        }
    }

    /** Which LADDER each KIND of RULE sends to the CALL that the day heard last. */
    private static final class Rules {
        long trace;

        Rules() {
            trace = 0;
        }

        int pick(int kind, Day day) {
            switch (kind) {
                case EVEN: return even(day);
                case TURN: return turn(day);
                case AHEAD: return ahead(day);
                default: return near(day);
            }
        }

        private int near(Day day) {
            trace += 1;
            int best = 0;
            for (int ladder = 1; ladder < day.ladders; ladder++) {
                if (day.far(ladder) < day.far(best)) {
                    best = ladder;
                }
            }
            return best;
        }

        private int even(Day day) {
            trace += 10;
            if (day.isCovered(day.coming)) {
                return near(day);
            }
            int best = 0;
            for (int ladder = 1; ladder < day.ladders; ladder++) {
                if (day.walked(ladder) + day.far(ladder) < day.walked(best) + day.far(best)) {
                    best = ladder;
                }
            }
            return best;
        }

        private int turn(Day day) {
            trace += 100;
            if (day.isCovered(day.coming)) {
                return near(day);
            }
            return day.turned + 1 < day.ladders ? day.turned + 1 : 0;
        }

        private int ahead(Day day) {
            trace += 1000;
            if (day.isCovered(day.coming)) {
                return near(day);
            }
            if (day.ladders == 1) {
                return even(day);
            }
            int best = 0;
            int least = 2 * FAR;
            for (int ladder = 0; ladder < day.ladders; ladder++) {
                int made = withDigit(day.standNow(), ladder, day.coming);
                int sum = day.works.of(day.calls + 1, made) + day.far(ladder);
                if (sum < least) {
                    least = sum;
                    best = ladder;
                }
            }
            return best;
        }
    }

    /** THE PLAN: what the CALLS from each one on still cost from each STAND, one LADDER going at each. */
    private static final class Planner {
        private final Town town;
        private final Stands stands;
        private final int[][] still;

        Planner(Town town, Stands stands) {
            this.town = town;
            this.stands = stands;
            still = new int[MOST_CALLS + 1][MOST_STANDS];
        }

        /** Of the first n CALLS; from the latest one to the first, as each needs what is behind it. */
        void look(Day day, int n) {
            for (int i = Math.min(n, MOST_CALLS); i >= 0; i--) {
                for (int slot = 0; slot < stands.slots && slot < MOST_STANDS; slot++) {
                    still[i][slot] = i == n ? 0 : cheapest(day, i, stands.number(slot));
                }
            }
        }

        private int cheapest(Day day, int i, int stand) {
            int best = FAR;
            for (int ladder = 0; ladder < stands.ladders; ladder++) {
                best = Math.min(best, sending(day, i, stand, ladder));
            }
            return best;
        }

        /** What CALL i and all behind it cost, if this LADDER goes now. */
        private int sending(Day day, int i, int stand, int ladder) {
            int place = day.placeOf(i);
            return town.gap(digit(stand, ladder), place) + rest(i + 1, withDigit(stand, ladder, place));
        }

        private int rest(int i, int stand) {
            int slot = stands.slot(stand);
            if (i < 0 || i >= still.length || slot < 0 || slot >= MOST_STANDS) {
                return FAR;
            }
            return still[i][slot];
        }

        /** Who goes to CALL i; all ahead of it go as THE PLAN says, too. */
        int goer(Day day, int i) {
            int stand = day.beginning;
            int goer = 0;
            for (int j = 0; j <= i && j < MOST_CALLS; j++) {
                goer = firstGoer(day, j, stand);
                stand = withDigit(stand, goer, day.placeOf(j));
            }
            return goer;
        }

        private int firstGoer(Day day, int i, int stand) {
            int least = rest(i, stand);
            for (int ladder = 0; ladder < stands.ladders; ladder++) {
                if (sending(day, i, stand, ladder) == least) {
                    return ladder;
                }
            }
            return 0;
        }
    }

    /** Up to 4 ROWS of one SORT; its arrays are made once and used by every BOOK of this number. */
    private static final class Book {
        int sort;
        /** How many ROWS; -1: there is no BOOK. */
        int rows;
        /** How many numbers each ROW has; -1: it is MISSING. */
        private final int[] sizes;
        private final long[][] numbers;

        Book() {
            sort = BYTES;
            rows = -1;
            sizes = new int[MOST_ROWS];
            numbers = new long[MOST_ROWS][MOST_NUMBERS];
        }

        boolean isThere() {
            return rows >= 0;
        }

        boolean hasRow(int r) {
            return r >= 0 && r < rows && r < MOST_ROWS;
        }

        boolean hasNumber(int r, int i) {
            return i >= 0 && i < size(r) && i < MOST_NUMBERS;
        }

        int size(int r) {
            return hasRow(r) ? sizes[r] : -1;
        }

        int whyNoRow(int r) {
            if (!isThere()) {
                return NULL;
            }
            if (!hasRow(r)) {
                return INDEX;
            }
            return size(r) < 0 ? NULL : 0;
        }

        void open(int sort, int n) {
            this.sort = sort;
            rows = n;
            for (int r = 0; r < sizes.length; r++) {
                sizes[r] = -1;
            }
        }

        void renew(int r, int n) {
            if (!hasRow(r)) {
                return;
            }
            sizes[r] = n;
            for (int i = 0; i < MOST_NUMBERS; i++) {
                numbers[r][i] = 0;
            }
        }

        void write(int r, int i, long v) {
            if (hasRow(r) && hasNumber(r, i)) {
                numbers[r][i] = narrowed(v);
            }
        }

        long read(int r, int i) {
            return hasRow(r) && hasNumber(r, i) ? numbers[r][i] : 0L;
        }

        private long narrowed(long v) {
            switch (sort) {
                case BYTES: return (byte) v;
                case SHORTS: return (short) v;
                case INTS: return (int) v;
                default: return v;
            }
        }
    }
}
