/**
 * A car whose bell stops it for the one who has thought latest of whoever rings.
 * README.md tells how to use it; the words in capitals are the document's terms.
 */
public final class BellCars {
    public static final int BAD = -1, STATE = -2, FULL = -3, NONE = -9;
    public static final int NO = -1000000;

    private static final int MOST_RIDERS = 6, MOST_BYTES = 120, MOST_SEEN = 6;
    private static final int MOST_UNDONE = 10, IMAGES = 2;
    private static final int LAST_STOP = 99, LAST_SEAT = 9, LAST_LOOKS = 9;
    private static final int LAWS = 3, LAST_LAW = LAWS - 1;
    private static final int MOST_LINE = 20, FIRST_LINE = 9;
    private static final int ODDS_BASE = 10;

    private final Text text = new Text();
    private final Told told = new Told();
    private final Told draft = new Told();
    private final Image present = new Image();
    private final Image[] images = new Image[IMAGES];
    private int imagesKept;
    private final Moment ahead = new Moment();
    private final int[] seenThinker = new int[MOST_SEEN];
    private final int[] seenThought = new int[MOST_SEEN];
    private int seenCount;
    private long traceSum;

    public BellCars() {
        for (int i = 0; i < IMAGES; i++) {
            images[i] = new Image();
        }
        startAnew();
    }

    // ---- the car

    public int type(int c) {
        if (c < 0 || c > 255) {
            return BAD;
        }
        return text.add(c) ? text.length : FULL;
    }

    public int clear() {
        int had = text.length;
        text.length = 0;
        return had;
    }

    public int car() {
        int fault = text.readInto(draft);
        if (fault != Text.SOUND) {
            return -10 - fault;
        }
        told.copyFrom(draft);
        text.length = 0;
        startAnew();
        return told.items;
    }

    public int rider(int r, int what) {
        if (!isRider(r)) {
            return BAD;
        }
        Moment m = present.moment;
        switch (what) {
            case 0: return m.seat[r];
            case 1: return told.looks[r];
            case 2: return told.law[r];
            case 3: return m.isAboard(r) ? 1 : 0;
            case 4: return m.downAt[r];
            case 5: return whom(m, r, told.law[r]);
            case 6: return m.isAboard(r) ? downByRing(m, m.aboard, r) : NONE;
            case 7: return m.isAboard(r) ? downByDoubleRing(m, r) : NONE;
            default: return BAD;
        }
    }

    public int latest(int r, int q) {
        return isPair(r, q) ? present.moment.thoughtOf(r, q) : BAD;
    }

    // ---- what is done

    public int rides() {
        Moment m = present.moment;
        if (m.stop >= LAST_STOP) {
            return STATE;
        }
        present.past.push(m);
        ride(m);
        return m.stop;
    }

    public int thinks(int r, int q) {
        Moment m = present.moment;
        if (!isPair(r, q)) {
            return BAD;
        }
        if (!m.isAboard(r) || !m.isAboard(q)) {
            return STATE;
        }
        present.past.push(m);
        m.think(r, q);
        return m.thoughts;
    }

    public int rings(int r) {
        Moment m = present.moment;
        if (!isRider(r)) {
            return BAD;
        }
        if (!m.isAboard(r)) {
            return STATE;
        }
        present.past.push(m);
        return m.getDown(downByRing(m, m.aboard, r));
    }

    public int twice(int r) {
        Moment m = present.moment;
        if (!isRider(r)) {
            return BAD;
        }
        if (!m.isAboard(r)) {
            return STATE;
        }
        present.past.push(m);
        return m.getDown(downByDoubleRing(m, r));
    }

    public int seats(int r, int seat) {
        Moment m = present.moment;
        if (!isRider(r) || seat < 0 || seat > LAST_SEAT) {
            return BAD;
        }
        int had = m.seat[r];
        if (!m.isAboard(r) || had == seat) {
            return STATE;
        }
        present.past.push(m);
        m.seat[r] = seat;
        return had;
    }

    public int boards(int r) {
        Moment m = present.moment;
        if (!isRider(r)) {
            return BAD;
        }
        if (m.isAboard(r)) {
            return STATE;
        }
        present.past.push(m);
        m.aboard |= 1 << r;
        m.downAt[r] = NONE;
        return Integer.bitCount(m.aboard);
    }

    public int undo() {
        if (present.past.size == 0) {
            return STATE;
        }
        present.past.popInto(present.moment);
        return present.past.size;
    }

    public int now(int what) {
        Moment m = present.moment;
        switch (what) {
            case 0: return m.stop;
            case 1: return m.aboard;
            case 2: return m.thoughts;
            case 3: return m.lonely;
            case 4: return m.stop >= told.line ? 1 : 0;
            default: return BAD;
        }
    }

    // ---- rings

    public int row(int set, int i) {
        Moment m = present.moment;
        if (!m.areAboard(set) || i < -1 || i >= MOST_RIDERS) {
            return BAD;
        }
        return i < 0 ? rowsFrom(m, set, m.aboard, 0, 0) : ringerAt(m, set, i);
    }

    public int soon(int set) {
        Moment m = present.moment;
        if (!m.areAboard(set)) {
            return BAD;
        }
        if (rowsFrom(m, set, m.aboard, 0, 0) > 0) {
            return 0;
        }
        // While it only rides, each further stop brings the first one's thoughts
        // again in the same order: what one stop does not bring, no other brings.
        ahead.copyFrom(m);
        ride(ahead);
        return rowsFrom(ahead, set, ahead.aboard, 0, 0) > 0 ? 1 : NONE;
    }

    public int odds(int r, int q, int x, int what) {
        if (!isPairAboard(r, q) || x < 0 || x > ODDS_BASE || what < 0 || what > 1) {
            return BAD;
        }
        int upper = oddsUpper(r, q, x);
        int lower = oddsLower(r, q);
        int divisor = commonDivisor(lower, upper);
        if (divisor < 1) {
            return BAD;
        }
        return (what == 0 ? upper : lower) / divisor;
    }

    // ---- thoughts

    public int circle(int r, int what) {
        Moment m = present.moment;
        if (!isRider(r) || !m.isAboard(r) || what < 0 || what > 1) {
            return BAD;
        }
        int circle = circleOf(m, r);
        if (circle == 0) {
            return NONE;
        }
        return what == 0 ? Integer.bitCount(circle) : lowestOf(circle);
    }

    public int chair(int r, int q) {
        if (!isPairAboard(r, q)) {
            return BAD;
        }
        for (int seat = 0; seat <= LAST_SEAT; seat++) {
            if (nearest(present.moment, r, seat) == q) {
                return seat;
            }
        }
        return NONE;
    }

    public int saw(int r, int q) {
        if (!isPairAboard(r, q)) {
            return BAD;
        }
        if (seenCount >= MOST_SEEN) {
            return FULL;
        }
        seenThinker[seenCount] = r;
        seenThought[seenCount] = q;
        seenCount++;
        return seenCount;
    }

    public int forget() {
        int had = seenCount;
        seenCount = 0;
        return had;
    }

    public int laws(int r) {
        return isRider(r) ? fittingLaws(r) : BAD;
    }

    public int likely() {
        int ways = 1;
        for (int r = 0; r < told.riders; r++) {
            if (present.moment.isAboard(r)) {
                ways *= Integer.bitCount(fittingLaws(r));
            }
        }
        return ways;
    }

    // ---- kinds, images

    public int mark(int kind, int r) {
        if (!isRider(r)) {
            return NO;
        }
        switch (kind) {
            case 0: return riderMark(r);
            case 1: return nunMark(r);
            case 2: return boyMark(r);
            case 3: return widowerMark(r);
            case 4: return girlMark(r);
            case 5: return driverMark(r);
            default: return NO;
        }
    }

    public int keep(int image) {
        if (!isImage(image)) {
            return BAD;
        }
        images[image].copyFrom(present);
        imagesKept |= 1 << image;
        return present.moment.stop;
    }

    public int back(int image) {
        if (!isImage(image)) {
            return BAD;
        }
        if ((imagesKept >> image & 1) == 0) {
            return STATE;
        }
        present.copyFrom(images[image]);
        return present.moment.stop;
    }

    public int count(int what) {
        switch (what) {
            case 0: return told.riders;
            case 1: return told.line;
            case 2: return seenCount;
            case 3: return present.past.size;
            case 4: return text.length;
            default: return BAD;
        }
    }

    public long trace() {
        return traceSum;
    }

    // ---- what numbers may be

    private boolean isRider(int r) {
        return r >= 0 && r < told.riders;
    }

    private boolean isPair(int r, int q) {
        return isRider(r) && isRider(q) && r != q;
    }

    private boolean isPairAboard(int r, int q) {
        return isPair(r, q) && present.moment.isAboard(r) && present.moment.isAboard(q);
    }

    private static boolean isImage(int image) {
        return image >= 0 && image < IMAGES;
    }

    private void startAnew() {
        present.moment.begin(told);
        present.past.size = 0;
        seenCount = 0;
        imagesKept = 0;
    }

    // ---- of whom one thinks

    private int whom(Moment m, int r, int law) {
        if (!m.isAboard(r)) {
            return NONE;
        }
        switch (law) {
            case 0: return nearest(m, r, m.seat[r]);
            case 1: return fairest(m, r);
            default: return nextAboard(m, r);
        }
    }

    private int nearest(Moment m, int r, int seat) {
        int best = NONE;
        int bestWay = 0;
        for (int q = 0; q < told.riders; q++) {
            int way = Math.abs(m.seat[q] - seat);
            if (q != r && m.isAboard(q) && (best == NONE || way < bestWay)) {
                best = q;
                bestWay = way;
            }
        }
        return best;
    }

    private int fairest(Moment m, int r) {
        int best = NONE;
        int bestLooks = 0;
        for (int q = 0; q < told.riders; q++) {
            int looks = told.looks[q];
            if (q != r && m.isAboard(q) && (best == NONE || looks > bestLooks)) {
                best = q;
                bestLooks = looks;
            }
        }
        return best;
    }

    private int nextAboard(Moment m, int r) {
        for (int step = 1; step < told.riders; step++) {
            int q = r + step < told.riders ? r + step : r + step - told.riders;
            if (m.isAboard(q)) {
                return q;
            }
        }
        return NONE;
    }

    private void ride(Moment m) {
        m.stop++;
        for (int r = 0; r < told.riders; r++) {
            int q = whom(m, r, told.law[r]);
            if (q != NONE) {
                m.think(r, q);
            }
        }
    }

    /** The bits of those in the circle that r comes to; 0 if he is alone. */
    private int circleOf(Moment m, int r) {
        int at = r;
        // As many steps as there are riders lead into the circle from anywhere.
        for (int step = 0; step < told.riders && at != NONE; step++) {
            at = whom(m, at, told.law[at]);
        }
        int circle = 0;
        for (int step = 0; step < told.riders && at != NONE; step++) {
            circle |= 1 << at;
            at = whom(m, at, told.law[at]);
        }
        return circle;
    }

    private static int lowestOf(int bits) {
        for (int r = 0; r < MOST_RIDERS; r++) {
            if ((bits >> r & 1) != 0) {
                return r;
            }
        }
        return NONE;
    }

    // ---- whom a ring lets down

    /** Whom r lets down, if those of the bits aboard are. */
    private static int downByRing(Moment m, int aboard, int r) {
        int best = NONE;
        int bestThought = 0;
        for (int q = 0; q < MOST_RIDERS; q++) {
            int thought = m.thoughtOf(q, r);
            if (q != r && (aboard >> q & 1) != 0 && thought > bestThought) {
                best = q;
                bestThought = thought;
            }
        }
        return best;
    }

    private static int downByDoubleRing(Moment m, int r) {
        int best = NONE;
        int bestThought = 0;
        for (int q = 0; q < MOST_RIDERS; q++) {
            int thought = m.thoughtOf(r, q);
            if (q != r && m.isAboard(q) && thought > bestThought) {
                best = q;
                bestThought = thought;
            }
        }
        return best;
    }

    /** Whom of the set r lets down in a row in which those of the bits rung have rung. */
    private static int downInRow(Moment m, int set, int aboard, int rung, int r) {
        if ((aboard >> r & 1) == 0 || (rung >> r & 1) != 0) {
            return NONE;
        }
        int down = downByRing(m, aboard, r);
        return down != NONE && (set >> down & 1) != 0 ? down : NONE;
    }

    /** In how many ways a row goes on, depth rings of which have been. */
    private static int rowsFrom(Moment m, int set, int aboard, int rung, int depth) {
        if ((set & aboard) == 0) {
            return 1;
        }
        if (depth >= MOST_RIDERS) {
            return 0;
        }
        int rows = 0;
        for (int r = 0; r < MOST_RIDERS; r++) {
            int down = downInRow(m, set, aboard, rung, r);
            if (down != NONE) {
                rows += rowsFrom(m, set, aboard & ~(1 << down), rung | 1 << r, depth + 1);
            }
        }
        return rows;
    }

    private static int ringerAt(Moment m, int set, int i) {
        int aboard = m.aboard;
        int rung = 0;
        for (int depth = 0; depth < MOST_RIDERS; depth++) {
            int r = firstRinger(m, set, aboard, rung, depth);
            if (r == NONE || depth == i) {
                return r;
            }
            aboard &= ~(1 << downInRow(m, set, aboard, rung, r));
            rung |= 1 << r;
        }
        return NONE;
    }

    /** The lowest one with whose ring a row goes on; NONE, if it is at its end or there is none. */
    private static int firstRinger(Moment m, int set, int aboard, int rung, int depth) {
        for (int r = 0; r < MOST_RIDERS; r++) {
            int down = downInRow(m, set, aboard, rung, r);
            if (down != NONE
                    && rowsFrom(m, set, aboard & ~(1 << down), rung | 1 << r, depth + 1) > 0) {
                return r;
            }
        }
        return NONE;
    }

    // ---- odds

    /** How many must be asleep for a ring of r to come to q. */
    private int aheadOf(int r, int q) {
        Moment m = present.moment;
        int thought = m.thoughtOf(q, r);
        int others = 0;
        for (int o = 0; o < told.riders; o++) {
            if (o != r && m.isAboard(o) && m.thoughtOf(o, r) > thought) {
                others++;
            }
        }
        return others;
    }

    private int oddsUpper(int r, int q, int x) {
        if (present.moment.thoughtOf(q, r) == 0) {
            return 0;
        }
        return (ODDS_BASE - x) * power(x, aheadOf(r, q));
    }

    private int oddsLower(int r, int q) {
        return ODDS_BASE * power(ODDS_BASE, aheadOf(r, q));
    }

    private static int power(int base, int times) {
        int product = 1;
        for (int i = 0; i < times; i++) {
            product *= base;
        }
        return product;
    }

    private static int commonDivisor(int a, int b) {
        int high = a;
        int low = b;
        // Two steps halve the numbers at least, so 64 are enough for any int.
        for (int i = 0; i < 64 && low != 0; i++) {
            int rest = high % low;
            high = low;
            low = rest;
        }
        return high;
    }

    // ---- laws

    private int fittingLaws(int r) {
        int bits = 0;
        for (int law = 0; law < LAWS; law++) {
            if (fitsSeen(r, law)) {
                bits |= 1 << law;
            }
        }
        return bits;
    }

    private boolean fitsSeen(int r, int law) {
        int thought = whom(present.moment, r, law);
        for (int i = 0; i < seenCount; i++) {
            if (seenThinker[i] == r && seenThought[i] != thought) {
                return false;
            }
        }
        return true;
    }

    // ---- kinds: each body counts itself in the trace

    private int riderMark(int r) {
        traceSum += 1;
        return present.moment.seat[r];
    }

    private int nunMark(int r) {
        traceSum += 10;
        return riderMark(r) + told.looks[r];
    }

    private int boyMark(int r) {
        traceSum += 100;
        return riderMark(r) - thinkersOf(r);
    }

    private int widowerMark(int r) {
        traceSum += 1000;
        return nunMark(r) * 2;
    }

    private int girlMark(int r) {
        traceSum += 10000;
        return boyMark(r) + r;
    }

    private int driverMark(int r) {
        traceSum += 100000;
        return riderMark(r) + present.moment.stop;
    }

    private int thinkersOf(int r) {
        int thinkers = 0;
        for (int q = 0; q < told.riders; q++) {
            if (present.moment.thoughtOf(q, r) > 0) {
                thinkers++;
            }
        }
        return thinkers;
    }

    /** What a text tells. */
    private static final class Told {
        int riders;
        int items;
        int line = FIRST_LINE;
        final int[] seat = new int[MOST_RIDERS];
        final int[] looks = new int[MOST_RIDERS];
        final int[] law = new int[MOST_RIDERS];

        void forgetAll() {
            riders = 0;
            items = 0;
            line = FIRST_LINE;
        }

        void copyFrom(Told other) {
            riders = other.riders;
            items = other.items;
            line = other.line;
            System.arraycopy(other.seat, 0, seat, 0, MOST_RIDERS);
            System.arraycopy(other.looks, 0, looks, 0, MOST_RIDERS);
            System.arraycopy(other.law, 0, law, 0, MOST_RIDERS);
        }
    }

    /** THE TEXT, and how it is read. */
    private static final class Text {
        static final int SOUND = -1;
        private static final int END = 0, LETTERS = 1, NUMBER = 2, SEMICOLON = 3, WRONG = 4;
        private static final int GREATEST_NUMBER = 99;

        int length;
        private final int[] bytes = new int[MOST_BYTES];
        private int at;
        private int sort;
        private int start;
        /** Of a NUMBER its value, of a letter alone that letter, else 0. */
        private int value;
        private boolean lineTold;

        boolean add(int c) {
            if (length >= MOST_BYTES) {
                return false;
            }
            bytes[length] = c;
            length++;
            return true;
        }

        /** Answers SOUND, or FAULT. */
        int readInto(Told told) {
            at = 0;
            lineTold = false;
            told.forgetAll();
            advance();
            for (int i = 0; i < MOST_BYTES && sort != END; i++) {
                if (!readItem(told)) {
                    return start;
                }
            }
            return SOUND;
        }

        /** Where this and those below answer false, the TOKEN from start on can't stand there. */
        private boolean readItem(Told told) {
            if (sort == LETTERS && value == 'r' && told.riders < MOST_RIDERS) {
                return readRider(told, told.riders) && comesEnd(told);
            }
            if (sort == LETTERS && value == 'l' && !lineTold) {
                return readLine(told) && comesEnd(told);
            }
            return false;
        }

        private boolean readRider(Told told, int r) {
            if (!comesNumber(0, LAST_SEAT)) {
                return false;
            }
            told.seat[r] = value;
            if (!comesNumber(0, LAST_LOOKS)) {
                return false;
            }
            told.looks[r] = value;
            if (!comesNumber(0, LAST_LAW)) {
                return false;
            }
            told.law[r] = value;
            told.riders++;
            return true;
        }

        private boolean readLine(Told told) {
            if (!comesNumber(1, MOST_LINE)) {
                return false;
            }
            told.line = value;
            lineTold = true;
            return true;
        }

        private boolean comesNumber(int low, int high) {
            advance();
            return sort == NUMBER && value >= low && value <= high;
        }

        private boolean comesEnd(Told told) {
            advance();
            if (sort != SEMICOLON) {
                return false;
            }
            told.items++;
            advance();
            return true;
        }

        private void advance() {
            passBytes(' ', ' ');
            start = at;
            value = 0;
            int c = at < length ? bytes[at] : 0;
            if (at >= length) {
                sort = END;
            } else if (c >= 'a' && c <= 'z') {
                passBytes('a', 'z');
                takeLetters(c);
            } else if (c >= '0' && c <= '9') {
                passBytes('0', '9');
                takeNumber(c);
            } else {
                sort = c == ';' ? SEMICOLON : WRONG;
                at++;
            }
        }

        private void passBytes(int low, int high) {
            while (at < length && bytes[at] >= low && bytes[at] <= high) {
                at++;
            }
        }

        private void takeLetters(int first) {
            sort = LETTERS;
            value = at - start == 1 ? first : 0;
        }

        private void takeNumber(int first) {
            boolean zeroAhead = first == '0' && at - start > 1;
            for (int i = start; i < at; i++) {
                // Kept just above the greatest, so that no row of digits wraps round.
                value = Math.min(value * 10 + bytes[i] - '0', GREATEST_NUMBER + 1);
            }
            sort = zeroAhead || value > GREATEST_NUMBER ? WRONG : NUMBER;
        }
    }

    /** NOW, but for what may be UNDONE. */
    private static final class Moment {
        int stop;
        int aboard;
        int thoughts;
        int lonely;
        final int[] seat = new int[MOST_RIDERS];
        final int[] downAt = new int[MOST_RIDERS];
        private final int[] thoughtAt = new int[MOST_RIDERS * MOST_RIDERS];

        void begin(Told told) {
            stop = 0;
            aboard = (1 << told.riders) - 1;
            thoughts = 0;
            lonely = 0;
            System.arraycopy(told.seat, 0, seat, 0, MOST_RIDERS);
            for (int r = 0; r < MOST_RIDERS; r++) {
                downAt[r] = NONE;
            }
            for (int i = 0; i < MOST_RIDERS * MOST_RIDERS; i++) {
                thoughtAt[i] = 0;
            }
        }

        void copyFrom(Moment other) {
            stop = other.stop;
            aboard = other.aboard;
            thoughts = other.thoughts;
            lonely = other.lonely;
            System.arraycopy(other.seat, 0, seat, 0, MOST_RIDERS);
            System.arraycopy(other.downAt, 0, downAt, 0, MOST_RIDERS);
            System.arraycopy(other.thoughtAt, 0, thoughtAt, 0, MOST_RIDERS * MOST_RIDERS);
        }

        boolean isAboard(int r) {
            return (aboard >> r & 1) != 0;
        }

        boolean areAboard(int set) {
            return (set & ~aboard) == 0;
        }

        int thoughtOf(int r, int q) {
            return thoughtAt[r * MOST_RIDERS + q];
        }

        void think(int r, int q) {
            thoughts++;
            thoughtAt[r * MOST_RIDERS + q] = thoughts;
        }

        /** Lets one down, or counts the ring as LONELY if there is NONE; answers who it was. */
        int getDown(int r) {
            if (r == NONE) {
                lonely++;
            } else {
                aboard &= ~(1 << r);
                downAt[r] = stop;
            }
            return r;
        }
    }

    /** What may be UNDONE: the latest moments, the oldest first from the place of that one. */
    private static final class Past {
        int size;
        private int oldest;
        private final Moment[] moments = new Moment[MOST_UNDONE];

        Past() {
            for (int i = 0; i < MOST_UNDONE; i++) {
                moments[i] = new Moment();
            }
        }

        void push(Moment m) {
            moments[placeOf(size)].copyFrom(m);
            if (size < MOST_UNDONE) {
                size++;
            } else {
                oldest = placeOf(1);
            }
        }

        void popInto(Moment m) {
            if (size > 0) {
                size--;
                m.copyFrom(moments[placeOf(size)]);
            }
        }

        void copyFrom(Past other) {
            size = other.size;
            oldest = 0;
            for (int i = 0; i < size; i++) {
                moments[i].copyFrom(other.moments[other.placeOf(i)]);
            }
        }

        /** The oldest is the 0th; past the last place it goes on from the first. */
        private int placeOf(int i) {
            return (oldest + i) % MOST_UNDONE;
        }
    }

    /** NOW, with what may be UNDONE. */
    private static final class Image {
        final Moment moment = new Moment();
        final Past past = new Past();

        void copyFrom(Image other) {
            moment.copyFrom(other.moment);
            past.copyFrom(other.past);
        }
    }
}
