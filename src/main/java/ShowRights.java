/** Rights to show a film, told in a text: offers signed, given up, moved, undone. Words in capitals are the document's. */
public final class ShowRights {
    public static final int BAD = -1, NO = -2, FULL = -3, NONE = -4;

    private static final int LANDS = 6;
    private static final int TONGUES = 4;
    private static final int MEANS = 4;
    private static final int CELLS = LANDS * TONGUES * MEANS;
    private static final int LAST_WEEK = 51;
    private static final int MOST_PRICE = 99;
    private static final int MOST_OFFERS = 10;
    private static final int MOST_HOLDS = 4;
    private static final int MOST_LETTERS = 200;
    private static final int MOST_CHANGES = 6;
    private static final int LOWEST_LETTER = 32;
    private static final int HIGHEST_LETTER = 126;

    private static final int TERM_NUMBERS = 2;
    private static final int OFFER_NUMBERS = 7;
    private static final int HOLD_NUMBERS = 3;
    private static final int MOST_FIGURES = 2;

    // Numbered as points() asks for them.
    private static final int OF_TERM = 0;
    private static final int SOLD = 1;
    private static final int TWICE = 2;
    private static final int ALONE = 3;
    private static final int LEFT = 4;

    private static final String AT_FIRST = "t2,48;o3,1,1,2,10,1,40;o3,3,2,20,40,0,25;o6,1,2,30,48,1,30;o1,2,12,8,51,0,9;o32,15,15,2,48,0,60;o35,1,4,15,20,0,12;h1,0,12;h2,0,20;";

    private final char[] text;
    private int letters;
    private final Reader reader;
    private Book book;
    // A text is read into the draft, so that a FAULT leaves the book as it was.
    private Book draft;
    private int signed;
    private final History history;

    public ShowRights() {
        text = new char[MOST_LETTERS];
        reader = new Reader();
        book = new Book();
        draft = new Book();
        history = new History();
        for (int i = 0; i < AT_FIRST.length() && i < MOST_LETTERS; i++) {
            text[i] = AT_FIRST.charAt(i);
            letters = i + 1;
        }
        layText();
        letters = 0;
    }

    // ---- told

    public int write(int letter) {
        if (letter < LOWEST_LETTER || letter > HIGHEST_LETTER) return BAD;
        if (letters >= MOST_LETTERS) return FULL;
        text[letters] = (char) letter;
        letters++;
        return letters;
    }

    public int wipe() {
        int was = letters;
        letters = 0;
        return was;
    }

    public int fault() {
        return reader.readInto(draft, text, letters);
    }

    public int lay() {
        return layText();
    }

    private int layText() {
        if (reader.readInto(draft, text, letters) != NONE || draft.offerCount == 0) return NO;
        Book old = book;
        book = draft;
        draft = old;
        signed = 0;
        history.forget();
        return book.offerCount;
    }

    // ---- signed

    public int sign(int i) {
        if (!isOffer(i)) return BAD;
        if (whatSpeaksAgainst(i) != 0) return NO;
        remember(i);
        signed |= 1 << i;
        return Integer.bitCount(signed);
    }

    public int why(int i) {
        if (!isOffer(i)) return BAD;
        return whatSpeaksAgainst(i);
    }

    public int clash(int i) {
        if (!isOffer(i)) return BAD;
        return book.lowestClash(i, signed);
    }

    public int drop(int i) {
        if (!isOffer(i)) return BAD;
        if (!isSigned(i)) return NO;
        remember(i);
        signed &= ~(1 << i);
        return Integer.bitCount(signed);
    }

    public int move(int i, int d) {
        if (!isOffer(i) || d < 0 || d > LAST_WEEK) return BAD;
        Offer offer = book.offers[i];
        int was = offer.moved;
        if (isSigned(i) || d == was || d > offer.farthestMove()) return NO;
        remember(i);
        offer.moved = d;
        return was;
    }

    public int soonest(int i) {
        if (!isOffer(i)) return BAD;
        if (isSigned(i)) return NO;
        // Tried on the offer itself and put back: what speaks against it is asked of it as it is MOVED.
        Offer offer = book.offers[i];
        int was = offer.moved;
        int found = NONE;
        for (int d = was; d <= offer.farthestMove() && found == NONE; d++) {
            offer.moved = d;
            if (whatSpeaksAgainst(i) == 0) found = d;
        }
        offer.moved = was;
        return found;
    }

    public int undo() {
        Change change = history.takeLatest();
        if (change == null) return NO;
        signed = change.signed;
        if (isOffer(change.offer)) book.offers[change.offer].moved = change.moved;
        return history.size;
    }

    private boolean isOffer(int i) {
        return i >= 0 && i < book.offerCount;
    }

    private boolean isSigned(int i) {
        return has(signed, i);
    }

    private int whatSpeaksAgainst(int i) {
        if (isSigned(i)) return 1;
        if (!book.isWithinTerm(i)) return 2;
        if (book.lowestClash(i, signed) != NONE) return 3;
        return book.areHoldsKept(signed | 1 << i) ? 0 : 4;
    }

    /** A change touches SIGNED and one OFFER's move at most: so these are all that has to be put back. */
    private void remember(int i) {
        history.add(signed, i, book.offers[i].moved);
    }

    // ---- looked at

    public int offer(int i, int what) {
        if (!isOffer(i)) return BAD;
        Offer offer = book.offers[i];
        switch (what) {
            case 0: return offer.lands;
            case 1: return offer.tongues;
            case 2: return offer.means;
            case 3: return offer.firstNow();
            case 4: return offer.lastNow();
            case 5: return offer.alone ? 1 : 0;
            case 6: return offer.price;
            case 7: return isSigned(i) ? 1 : 0;
            case 8: return offer.commonPoints(offer);
            default: return BAD;
        }
    }

    public int common(int i, int j) {
        if (!isOffer(i) || !isOffer(j) || i == j) return BAD;
        return book.offers[i].commonPoints(book.offers[j]);
    }

    public int begin(int land, int means) {
        if (!isBelow(land, LANDS) || !isBelow(means, MEANS)) return BAD;
        return book.beginOf(signed, land, means);
    }

    public int broken(int h) {
        if (!isBelow(h, book.holdCount)) return BAD;
        return book.brokenLands(signed, book.holds[h]);
    }

    public int point(int land, int tongue, int means, int week, int what) {
        if (!isCell(land, tongue, means) || week < book.termFirst || week > book.termLast) return BAD;
        if (what != 0 && what != 1) return BAD;
        int cell = cellOf(land, tongue, means);
        if (what == 0) return howManyHave(cell, week);
        return hasWeek(weeksOf(cell, ALONE), week) ? 1 : 0;
    }

    public int points(int what) {
        if (what < OF_TERM || what > LEFT) return BAD;
        int sum = 0;
        for (int cell = 0; cell < CELLS; cell++) {
            sum += Long.bitCount(weeksOf(cell, what));
        }
        return sum;
    }

    public int window(int land, int tongue, int means, int k, int what) {
        if (!isCell(land, tongue, means) || k < -1) return BAD;
        if (what != 0 && what != 1) return BAD;
        long left = weeksOf(cellOf(land, tongue, means), LEFT);
        if (k == -1) return Long.bitCount(windowStarts(left));
        int first = kthWeek(windowStarts(left), k);
        if (first == NONE || what == 0) return first;
        return first + windowLength(left, first) - 1;
    }

    public int longest(int what) {
        if (what < 0 || what > 4) return BAD;
        int length = 0;
        int cell = 0;
        int first = 0;
        for (int c = 0; c < CELLS; c++) {
            long left = weeksOf(c, LEFT);
            int start = longestStart(left);
            int weeks = windowLength(left, start);
            if (weeks > length) {
                length = weeks;
                cell = c;
                first = start;
            }
        }
        if (length == 0) return NONE;
        switch (what) {
            case 0: return length;
            case 1: return landOf(cell);
            case 2: return tongueOf(cell);
            case 3: return meansOf(cell);
            default: return first;
        }
    }

    private int howManyHave(int cell, int week) {
        int found = 0;
        for (int i = 0; i < book.offerCount; i++) {
            Offer offer = book.offers[i];
            if (isSigned(i) && offer.hasCell(cell) && hasWeek(offer.weeksNow(), week)) found++;
        }
        return found;
    }

    /** The WEEKS, as bits, whose POINTS of a cell are what is asked for. */
    private long weeksOf(int cell, int what) {
        long sold = 0;
        long twice = 0;
        long alone = 0;
        for (int i = 0; i < book.offerCount; i++) {
            Offer offer = book.offers[i];
            if (isSigned(i) && offer.hasCell(cell)) {
                long weeks = offer.weeksNow();
                twice |= sold & weeks;
                sold |= weeks;
                if (offer.alone) alone |= weeks;
            }
        }
        long term = weeksFromTo(book.termFirst, book.termLast);
        switch (what) {
            case SOLD: return term & sold;
            case TWICE: return term & twice;
            case ALONE: return term & alone;
            case LEFT: return term & ~sold;
            default: return term;
        }
    }

    // ---- the best

    public int best(int what) {
        if (what != 0 && what != 1) return BAD;
        int set = book.bestSet();
        return what == 0 ? book.priceOf(set) : set;
    }

    public int take() {
        int set = book.bestSet();
        remember(0);
        signed = set;
        return Integer.bitCount(signed);
    }

    public int count(int what) {
        switch (what) {
            case 0: return book.offerCount;
            case 1: return book.holdCount;
            case 2: return book.termFirst;
            case 3: return book.termLast;
            case 4: return Integer.bitCount(signed);
            case 5: return book.priceOf(signed);
            case 6: return book.clashingPairs();
            case 7: return history.size;
            case 8: return letters;
            default: return BAD;
        }
    }

    // ---- cells: a LAND, a TONGUE and a MEANS in one number, in the order in which WINDOWS are looked through

    private static boolean isBelow(int number, int bound) {
        return number >= 0 && number < bound;
    }

    private static boolean isCell(int land, int tongue, int means) {
        return isBelow(land, LANDS) && isBelow(tongue, TONGUES) && isBelow(means, MEANS);
    }

    private static int cellOf(int land, int tongue, int means) {
        return (land * TONGUES + tongue) * MEANS + means;
    }

    private static int landOf(int cell) {
        return cell / (TONGUES * MEANS);
    }

    private static int tongueOf(int cell) {
        return cell / MEANS % TONGUES;
    }

    private static int meansOf(int cell) {
        return cell % MEANS;
    }

    // ---- sets as bits

    private static boolean has(int set, int member) {
        return (set >> member & 1) != 0;
    }

    private static boolean isSetBelow(int set, int bound) {
        return set >= 1 && set < 1 << bound;
    }

    private static boolean hasWeek(long weeks, int week) {
        return (weeks >> week & 1) != 0;
    }

    private static long weeksFromTo(int first, int last) {
        return (1L << last + 1) - (1L << first);
    }

    private static long windowStarts(long left) {
        return left & ~(left << 1);
    }

    private static int kthWeek(long weeks, int k) {
        int before = 0;
        for (int week = 0; week <= LAST_WEEK; week++) {
            if (hasWeek(weeks, week)) {
                if (before == k) return week;
                before++;
            }
        }
        return NONE;
    }

    private static int windowLength(long left, int first) {
        int week = first;
        while (week <= LAST_WEEK && hasWeek(left, week)) week++;
        return week - first;
    }

    private static int longestStart(long left) {
        int longest = 0;
        int start = 0;
        int length = 0;
        for (int week = 0; week <= LAST_WEEK; week++) {
            length = hasWeek(left, week) ? length + 1 : 0;
            if (length > longest) {
                longest = length;
                start = week - length + 1;
            }
        }
        return start;
    }

    /** One OFFER: as it was told, and by how many WEEKS it is MOVED. */
    private static final class Offer {
        int lands;
        int tongues;
        int means;
        int first;
        int last;
        boolean alone;
        int price;
        int moved;

        int firstNow() {
            return first + moved;
        }

        int lastNow() {
            return last + moved;
        }

        int farthestMove() {
            return LAST_WEEK - last;
        }

        long weeksNow() {
            return weeksFromTo(firstNow(), lastNow());
        }

        boolean hasCell(int cell) {
            return has(lands, landOf(cell)) && has(tongues, tongueOf(cell)) && has(means, meansOf(cell));
        }

        int commonPoints(Offer other) {
            return Integer.bitCount(lands & other.lands)
                    * Integer.bitCount(tongues & other.tongues)
                    * Integer.bitCount(means & other.means)
                    * Long.bitCount(weeksNow() & other.weeksNow());
        }

        boolean meets(Offer other) {
            return (lands & other.lands) != 0 && (tongues & other.tongues) != 0 && (means & other.means) != 0
                    && firstNow() <= other.lastNow() && other.firstNow() <= lastNow();
        }

        boolean clashesWith(Offer other) {
            return (alone || other.alone) && meets(other);
        }
    }

    /** One HOLD: a MEANS has to begin some WEEKS or more behind another one. */
    private static final class Hold {
        int later;
        int earlier;
        int weeks;
    }

    /** What a TEXT tells: the TERM, the OFFERS and the HOLDS. Sets of OFFERS are bits. */
    private static final class Book {
        final Offer[] offers = new Offer[MOST_OFFERS];
        int offerCount;
        final Hold[] holds = new Hold[MOST_HOLDS];
        int holdCount;
        int termFirst;
        int termLast;

        Book() {
            for (int i = 0; i < MOST_OFFERS; i++) offers[i] = new Offer();
            for (int h = 0; h < MOST_HOLDS; h++) holds[h] = new Hold();
        }

        void clear() {
            offerCount = 0;
            holdCount = 0;
            termFirst = 0;
            termLast = LAST_WEEK;
        }

        private static boolean isSpan(int first, int last) {
            return first >= 0 && first <= last && last <= LAST_WEEK;
        }

        boolean setTerm(int first, int last) {
            if (!isSpan(first, last)) return false;
            termFirst = first;
            termLast = last;
            return true;
        }

        boolean addOffer(int[] told) {
            if (offerCount >= MOST_OFFERS || told.length < OFFER_NUMBERS || !isOfferTold(told)) return false;
            Offer offer = offers[offerCount];
            offer.lands = told[0];
            offer.tongues = told[1];
            offer.means = told[2];
            offer.first = told[3];
            offer.last = told[4];
            offer.alone = told[5] == 1;
            offer.price = told[6];
            offer.moved = 0;
            offerCount++;
            return true;
        }

        private static boolean isOfferTold(int[] told) {
            return isSetBelow(told[0], LANDS) && isSetBelow(told[1], TONGUES) && isSetBelow(told[2], MEANS)
                    && isSpan(told[3], told[4])
                    && isBelow(told[5], 2)
                    && told[6] >= 1 && told[6] <= MOST_PRICE;
        }

        boolean addHold(int later, int earlier, int weeks) {
            if (holdCount >= MOST_HOLDS || later == earlier) return false;
            if (!isBelow(later, MEANS) || !isBelow(earlier, MEANS) || weeks < 1 || weeks > LAST_WEEK) return false;
            Hold hold = holds[holdCount];
            hold.later = later;
            hold.earlier = earlier;
            hold.weeks = weeks;
            holdCount++;
            return true;
        }

        boolean isWithinTerm(int i) {
            return offers[i].firstNow() >= termFirst && offers[i].lastNow() <= termLast;
        }

        /** The lowest of a set, another one, with which an OFFER CLASHES, or NONE. */
        int lowestClash(int i, int set) {
            for (int j = 0; j < offerCount; j++) {
                if (j != i && has(set, j) && offers[i].clashesWith(offers[j])) return j;
            }
            return NONE;
        }

        int clashingPairs() {
            int pairs = 0;
            for (int i = 0; i < offerCount; i++) {
                for (int j = i + 1; j < offerCount; j++) {
                    if (offers[i].clashesWith(offers[j])) pairs++;
                }
            }
            return pairs;
        }

        /** BEGIN, were just a set SIGNED, or NONE. */
        int beginOf(int set, int land, int means) {
            int least = NONE;
            for (int i = 0; i < offerCount; i++) {
                Offer offer = offers[i];
                if (has(set, i) && has(offer.lands, land) && has(offer.means, means)
                        && (least == NONE || offer.firstNow() < least)) {
                    least = offer.firstNow();
                }
            }
            return least;
        }

        /** KEPT, were just a set SIGNED. */
        private boolean isKept(int set, Hold hold, int land) {
            int later = beginOf(set, land, hold.later);
            if (later == NONE) return true;
            int earlier = beginOf(set, land, hold.earlier);
            return earlier == NONE || later - earlier >= hold.weeks;
        }

        boolean areHoldsKept(int set) {
            for (int h = 0; h < holdCount; h++) {
                for (int land = 0; land < LANDS; land++) {
                    if (!isKept(set, holds[h], land)) return false;
                }
            }
            return true;
        }

        /** LANDS, as bits. */
        int brokenLands(int set, Hold hold) {
            int lands = 0;
            for (int land = 0; land < LANDS; land++) {
                if (!isKept(set, hold, land)) lands |= 1 << land;
            }
            return lands;
        }

        int priceOf(int set) {
            int sum = 0;
            for (int i = 0; i < offerCount; i++) {
                if (has(set, i)) sum += offers[i].price;
            }
            return sum;
        }

        /** BEST SET. Sets come in the order of their bits, so of several that are as good the first one stays. */
        int bestSet() {
            int outside = outsideTerm();
            int best = 0;
            int bestPrice = 0;
            for (int set = 1; set < 1 << offerCount; set++) {
                if ((set & outside) != 0) continue;
                int price = priceOf(set);
                boolean better = price > bestPrice
                        || price == bestPrice && Integer.bitCount(set) < Integer.bitCount(best);
                // The dearest question comes last: most sets are not better than one that was found.
                if (better && isWithoutClash(set) && areHoldsKept(set)) {
                    best = set;
                    bestPrice = price;
                }
            }
            return best;
        }

        private int outsideTerm() {
            int set = 0;
            for (int i = 0; i < offerCount; i++) {
                if (!isWithinTerm(i)) set |= 1 << i;
            }
            return set;
        }

        private boolean isWithoutClash(int set) {
            for (int i = 0; i < offerCount; i++) {
                if (has(set, i) && lowestClash(i, set) != NONE) return false;
            }
            return true;
        }
    }

    /** Reads THE TEXT, ITEM for ITEM. */
    private static final class Reader {
        private final int[] numbers = new int[OFFER_NUMBERS];

        /** FAULT, or NONE. The book holds all ITEMS ahead of the FAULT then. */
        int readInto(Book book, char[] text, int letters) {
            book.clear();
            int start = 0;
            for (int place = 0; place < letters; place++) {
                if (text[place] == ';') {
                    if (!readItem(book, text, start, place)) return start;
                    start = place + 1;
                }
            }
            return start < letters ? start : NONE;
        }

        private boolean readItem(Book book, char[] text, int start, int end) {
            char kind = text[start];
            int found = readNumbers(text, start + 1, end);
            if (kind == 't') return found == TERM_NUMBERS && book.setTerm(numbers[0], numbers[1]);
            if (kind == 'o') return found == OFFER_NUMBERS && book.addOffer(numbers);
            if (kind == 'h') return found == HOLD_NUMBERS && book.addHold(numbers[0], numbers[1], numbers[2]);
            return false;
        }

        /** How many numbers stand there with a comma between any two, or 0 if what stands there is anything else. */
        private int readNumbers(char[] text, int start, int end) {
            int found = 0;
            int figures = 0;
            int value = 0;
            for (int place = start; place < end; place++) {
                char letter = text[place];
                if (letter >= '0' && letter <= '9' && figures < MOST_FIGURES) {
                    value = value * 10 + (letter - '0');
                    figures++;
                } else if (letter == ',' && figures > 0 && found < OFFER_NUMBERS - 1) {
                    numbers[found] = value;
                    found++;
                    figures = 0;
                    value = 0;
                } else {
                    return 0;
                }
            }
            if (figures == 0) return 0;
            numbers[found] = value;
            return found + 1;
        }
    }

    /** What was so ahead of a change. */
    private static final class Change {
        int signed;
        int offer;
        int moved;
    }

    /** The latest changes, the oldest first. */
    private static final class History {
        private final Change[] changes = new Change[MOST_CHANGES];
        int size;

        History() {
            for (int c = 0; c < MOST_CHANGES; c++) changes[c] = new Change();
        }

        void forget() {
            size = 0;
        }

        void add(int signed, int offer, int moved) {
            if (size >= MOST_CHANGES) loseOldest();
            Change change = changes[size];
            change.signed = signed;
            change.offer = offer;
            change.moved = moved;
            size++;
        }

        private void loseOldest() {
            Change oldest = changes[0];
            for (int c = 1; c < MOST_CHANGES; c++) changes[c - 1] = changes[c];
            changes[MOST_CHANGES - 1] = oldest;
            size = MOST_CHANGES - 1;
        }

        /** The latest change, which is in the history no more; null if there is none. */
        Change takeLatest() {
            if (size <= 0) return null;
            size--;
            return changes[size];
        }
    }
}
