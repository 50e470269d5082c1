/** A tender of state paper: its BIDS, what of them is ADMITTED and SOLD, what they PAY, and what would be otherwise. */
public final class BillTender {
    public static final int NONE = -1;

    private static final int NOTHING = -2;
    // PLAIN lies below every YIELD, so that sorting by rates puts PLAIN BIDS first.
    private static final int PLAIN = -1;

    private static final int OFFER = 0;
    private static final int LIMIT = 1;
    private static final int SHARE = 2;
    private static final int FROM = 3;
    private static final int TO = 4;
    private static final int DAYS = 5;
    private static final int METHOD = 6;
    private static final int TERMS = 7;
    private static final int OWN = 1;

    private static final int[] LEAST = {1, 1, 0, 0, 0, 1, 0};
    private static final int[] MOST = {2000, 100, 100, 999, 999, 360, 1};
    private static final int[] FIRST = {100, 35, 20, 0, 999, 90, 0};

    private static final int HOUSES = 8;
    private static final int MOST_BIDS = 30;
    private static final int MOST_LOTS = 1000;
    private static final int MOST_RATE = 999;
    private static final int MOST_HELD = 9999;
    private static final int MOST_OFFER = 2000;
    private static final int MOST_TAPE = 700;
    private static final int MOST_ACTS = 12;
    private static final int MOST_LINES = 8;
    private static final int MOST_DIGITS = 5;

    private static final int WHY_BOUNDS = 1;
    private static final int WHY_ROOM = 2;

    private final Book book = new Book();
    private final Sale sale = new Sale(book);
    // All that only WERE is tried on this copy, so that nothing happens to the book.
    private final Book trial = new Book();
    private final Sale trialSale = new Sale(trial);
    private final Past past = new Past();
    private final Tape tape = new Tape();
    private final Reader reader = new Reader(tape, trial);
    private final Speller speller = new Speller();

    public BillTender() {
    }

    // ---- told

    public int feed(int a, int b, int c, int d, int e) {
        if (!tape.hasRoomForFive()) {
            return NONE;
        }
        tape.addFour(a);
        tape.addFour(b);
        tape.addFour(c);
        tape.addFour(d);
        tape.addFour(e);
        return tape.length;
    }

    public int back(int n) {
        if (n < 0 || n > tape.length) {
            return NONE;
        }
        tape.length -= n;
        return tape.length;
    }

    public int text() {
        int fault = reader.readAll();
        tape.length = 0;
        if (fault != NONE) {
            return -4 - fault;
        }
        book.copyFrom(trial);
        past.forget();
        return book.bids;
    }

    // ---- acts

    public int bid(int house, int rate, int lots) {
        boolean rateFits = rate == NONE || isRate(rate);
        if (!isHouse(house) || !rateFits || !isLots(lots) || book.bids >= MOST_BIDS) {
            return NONE;
        }
        past.keep(book);
        book.insert(book.bids, house, rate == NONE ? PLAIN : rate, lots);
        return book.bids - 1;
    }

    public boolean withdraw(int bid) {
        if (!book.hasBid(bid)) {
            return false;
        }
        past.keep(book);
        book.remove(bid);
        return true;
    }

    public int change(int bid, int what, int v) {
        if (!book.hasBid(bid)) {
            return NONE;
        }
        if (what == 0) {
            return changeLots(bid, v);
        }
        return what == 1 ? changeRate(bid, v) : NONE;
    }

    private int changeLots(int bid, int v) {
        int was = book.lots[bid];
        if (!isLots(v) || v == was) {
            return NONE;
        }
        past.keep(book);
        book.lots[bid] = v;
        return was;
    }

    private int changeRate(int bid, int v) {
        int was = book.rates[bid];
        if (was == PLAIN || !isRate(v) || v == was) {
            return NONE;
        }
        past.keep(book);
        book.rates[bid] = v;
        return was;
    }

    public int term(int what, int v) {
        if (!book.termFits(what, v) || book.terms[what] == v) {
            return NONE;
        }
        int was = book.terms[what];
        past.keep(book);
        book.terms[what] = v;
        return was;
    }

    public int own(int house, int owner) {
        if (!isHouse(house) || !isHouse(owner) || book.owners[house] == owner) {
            return NONE;
        }
        int was = book.owners[house];
        past.keep(book);
        book.owners[house] = owner;
        return was;
    }

    public boolean split(int bid, int lots) {
        if (!book.hasBid(bid) || book.bids >= MOST_BIDS || lots < 1 || lots >= book.lots[bid]) {
            return false;
        }
        past.keep(book);
        book.insert(bid + 1, book.houses[bid], book.rates[bid], book.lots[bid] - lots);
        book.lots[bid] = lots;
        return true;
    }

    public int merge(int house) {
        if (!isHouse(house)) {
            return NONE;
        }
        trial.copyFrom(book);
        trial.join(house);
        int gone = book.bids - trial.bids;
        if (gone == 0) {
            return NONE;
        }
        past.keep(book);
        book.copyFrom(trial);
        return gone;
    }

    public boolean move(int bid, int to) {
        if (!book.hasBid(bid) || !book.hasBid(to) || bid == to) {
            return false;
        }
        past.keep(book);
        int house = book.houses[bid];
        int rate = book.rates[bid];
        int lots = book.lots[bid];
        book.remove(bid);
        book.insert(to, house, rate, lots);
        return true;
    }

    public int hold(int house, int lots) {
        if (!isHouse(house) || lots < 0 || lots > MOST_HELD || book.holds[house] == lots) {
            return NONE;
        }
        int was = book.holds[house];
        past.keep(book);
        book.holds[house] = lots;
        return was;
    }

    public int settle() {
        if (book.bids == 0) {
            return NONE;
        }
        past.keep(book);
        Sale s = standing();
        int sold = s.soldInAll();
        book.ledger.add(s.stop, s.average, sold, s.paysInAll());
        for (int house = 0; house < HOUSES; house++) {
            book.holds[house] = Math.min(MOST_HELD, book.holds[house] + s.soldTo(house));
        }
        book.bids = 0;
        return sold;
    }

    public int undo() {
        if (past.acts == 0) {
            return NONE;
        }
        past.giveBack(book);
        return past.acts;
    }

    // ---- asked

    public int asTerm(int what) {
        return what < 0 || what >= TERMS ? NONE : book.terms[what];
    }

    public int of(int bid, int what) {
        if (!book.hasBid(bid)) {
            return NONE;
        }
        Sale s = standing();
        switch (what) {
            case 0:
                return book.houses[bid];
            case 1:
                return book.rates[bid] == PLAIN ? NOTHING : book.rates[bid];
            case 2:
                return book.lots[bid];
            case 3:
                return s.admitted[bid];
            case 4:
                return s.why[bid];
            case 5:
                return s.sold[bid];
            default:
                return NONE;
        }
    }

    public long pays(int bid) {
        return book.hasBid(bid) ? standing().paysFor(bid) : NONE;
    }

    public int house(int house, int what) {
        if (!isHouse(house)) {
            return NONE;
        }
        Sale s = standing();
        switch (what) {
            case 0:
                return book.holds[house];
            case 1:
                return s.rooms[book.owners[house]];
            case 2:
                return book.lotsOf(house);
            case 3:
                return s.admittedOf(house);
            case 4:
                return s.soldTo(house);
            case 5:
                return book.owners[house];
            case 6:
                return book.ownedBy(house);
            default:
                return NONE;
        }
    }

    public long housePays(int house) {
        return isHouse(house) ? standing().paysOf(house) : NONE;
    }

    public int result(int what) {
        return standing().figure(what);
    }

    public long paid() {
        return standing().paysInAll();
    }

    public long mean(int house) {
        if (!isHouse(house)) {
            return NONE;
        }
        Sale s = standing();
        int sold = s.soldTo(house);
        return sold > 0 ? s.paysOf(house) / sold : NOTHING;
    }

    public int filled(int bid) {
        if (!book.hasBid(bid) || book.lots[bid] < 1) {
            return NONE;
        }
        return standing().sold[bid] * 100 / book.lots[bid];
    }

    public int dearest() {
        Sale s = standing();
        int best = NOTHING;
        long most = -1;
        for (int i = 0; i < book.bids; i++) {
            long pay = s.paysFor(i);
            if (pay > most) {
                most = pay;
                best = i;
            }
        }
        return best;
    }

    public int price(int rate) {
        return isRate(rate) ? book.priceAt(rate) : NONE;
    }

    public int upTo(int rate) {
        return isRate(rate) ? standing().admittedUpTo(rate) : NONE;
    }

    public int ranked(int k) {
        return book.hasBid(k) ? standing().order[k] : NONE;
    }

    public int full() {
        Sale s = standing();
        int owners = 0;
        for (int owner = 0; owner < HOUSES; owner++) {
            int sold = s.soldUnder(owner);
            if (sold > 0 && sold >= s.rooms[owner]) {
                owners++;
            }
        }
        return owners;
    }

    public int crowded() {
        Sale s = standing();
        int all = s.soldInAll();
        if (all < 1) {
            return 0;
        }
        int sum = 0;
        for (int house = 0; house < HOUSES; house++) {
            int hundredths = s.soldTo(house) * 100 / all;
            sum += hundredths * hundredths;
        }
        return sum;
    }

    public int step(int k, int what) {
        Sale s = standing();
        int rate = s.rateOfStep(k);
        if (rate == NONE) {
            return NONE;
        }
        switch (what) {
            case 0:
                return rate;
            case 1:
                return s.admittedAt(rate);
            case 2:
                return s.admittedUpTo(rate);
            case 3:
                return s.soldAtRate(rate);
            case 4:
                return s.bidsAt(rate);
            default:
                return NONE;
        }
    }

    // ---- were

    public int byOffer(int offer, int what) {
        return figureBy(OFFER, offer, what);
    }

    public int offerFor(int rate) {
        if (!isRate(rate)) {
            return NONE;
        }
        trial.copyFrom(book);
        for (int offer = 1; offer <= MOST_OFFER; offer++) {
            if (tryTerm(OFFER, offer).stop >= rate) {
                return offer;
            }
        }
        return NOTHING;
    }

    public int byTerm(int term, int v, int what) {
        return figureBy(term, v, what);
    }

    private int figureBy(int term, int v, int what) {
        if (!book.termFits(term, v)) {
            return NONE;
        }
        trial.copyFrom(book);
        trial.terms[term] = v;
        return tried().figure(what);
    }

    public int limitFor(int house, int lots) {
        if (!isHouse(house) || lots < 1) {
            return NONE;
        }
        trial.copyFrom(book);
        for (int limit = LEAST[LIMIT]; limit <= MOST[LIMIT]; limit++) {
            if (tryTerm(LIMIT, limit).soldTo(house) >= lots) {
                return limit;
            }
        }
        return NOTHING;
    }

    public int shareFor(int lots) {
        if (lots < 1) {
            return NONE;
        }
        trial.copyFrom(book);
        for (int share = LEAST[SHARE]; share <= MOST[SHARE]; share++) {
            if (tryTerm(SHARE, share).soldPlain >= lots) {
                return share;
            }
        }
        return NOTHING;
    }

    public int lotsFor(int bid, int lots) {
        if (!book.hasBid(bid) || lots < 1) {
            return NONE;
        }
        trial.copyFrom(book);
        // A BID of fewer LOTS than these can't be SOLD these.
        for (int v = lots; v <= MOST_LOTS; v++) {
            trial.lots[bid] = v;
            if (tried().sold[bid] >= lots) {
                return v;
            }
        }
        return NOTHING;
    }

    public int bestOffer() {
        if (book.bids == 0) {
            return NOTHING;
        }
        trial.copyFrom(book);
        int best = NOTHING;
        long most = -1;
        for (int offer = 1; offer <= MOST_OFFER; offer++) {
            long pay = tryTerm(OFFER, offer).paysInAll();
            if (pay > most) {
                most = pay;
                best = offer;
            }
        }
        return best;
    }

    public long paidBy(int method) {
        if (!book.termFits(METHOD, method)) {
            return NONE;
        }
        trial.copyFrom(book);
        return tryTerm(METHOD, method).paysInAll();
    }

    public int soldAt(int bid, int rate) {
        if (!book.hasBid(bid) || book.rates[bid] == PLAIN || !isRate(rate)) {
            return NONE;
        }
        trial.copyFrom(book);
        return tryRate(bid, rate).sold[bid];
    }

    public int yieldFor(int bid, int lots) {
        if (!book.hasBid(bid) || book.rates[bid] == PLAIN || lots < 1) {
            return NONE;
        }
        trial.copyFrom(book);
        for (int rate = MOST_RATE; rate >= 0; rate--) {
            if (tryRate(bid, rate).sold[bid] >= lots) {
                return rate;
            }
        }
        return NOTHING;
    }

    public int soldAllAt(int house, int rate) {
        if (!isHouse(house) || !isRate(rate)) {
            return NONE;
        }
        trial.copyFrom(book);
        for (int i = 0; i < trial.bids; i++) {
            if (trial.houses[i] == house && trial.rates[i] != PLAIN) {
                trial.rates[i] = rate;
            }
        }
        return tried().soldTo(house);
    }

    public int stopWithout(int bid) {
        if (!book.hasBid(bid)) {
            return NONE;
        }
        trial.copyFrom(book);
        trial.remove(bid);
        return tried().stop;
    }

    public int pivot() {
        int best = 0;
        int greatest = NOTHING;
        for (int house = 0; house < HOUSES; house++) {
            trial.copyFrom(book);
            trial.removeAllOf(house);
            int stop = tried().stop;
            if (stop > greatest) {
                greatest = stop;
                best = house;
            }
        }
        return best;
    }

    // ---- the record, texts

    public int record(int k, int what) {
        Ledger ledger = book.ledger;
        if (!ledger.hasLine(k)) {
            return NONE;
        }
        switch (what) {
            case 0:
                return ledger.stops[k];
            case 1:
                return ledger.averages[k];
            case 2:
                return ledger.sold[k];
            default:
                return NONE;
        }
    }

    public int records(int what) {
        switch (what) {
            case 0:
                return book.ledger.soldInAll();
            case 1:
                return book.ledger.meanStop();
            case 2:
                return book.ledger.greatestStop();
            case 3:
                return book.ledger.leastStop();
            default:
                return NONE;
        }
    }

    public long recordPaid(int k) {
        return book.ledger.hasLine(k) ? book.ledger.payments[k] : NONE;
    }

    public int spell(int i) {
        if (i < NONE) {
            return NONE;
        }
        speller.write(book, i);
        if (i == NONE) {
            return speller.length;
        }
        return i < speller.length ? speller.found : NOTHING;
    }

    public int count(int what) {
        switch (what) {
            case 0:
                return book.bids;
            case 1:
                return book.plainBids();
            case 2:
                return book.ledger.lines;
            case 3:
                return past.acts;
            case 4:
                return tape.length;
            case 5:
                return standing().bidsWithWhy(WHY_BOUNDS);
            case 6:
                return standing().bidsWithWhy(WHY_ROOM);
            case 7:
                return book.housesWithBids();
            case 8:
                return book.ownersInAll();
            default:
                return NONE;
        }
    }

    // ---- what the calls share

    private static boolean isHouse(int house) {
        return house >= 0 && house < HOUSES;
    }

    private static boolean isRate(int rate) {
        return rate >= 0 && rate <= MOST_RATE;
    }

    private static boolean isLots(int lots) {
        return lots >= 1 && lots <= MOST_LOTS;
    }

    private static boolean isLetter(int sign) {
        return sign >= 'a' && sign <= 'z';
    }

    private static boolean isDigit(int sign) {
        return sign >= '0' && sign <= '9';
    }

    private static boolean isBlank(int sign) {
        return sign == ' ' || sign == 10;
    }

    /** The sum of a row's first numbers, of those only that have the key at their place. */
    private static int sumWhere(int[] row, int[] keys, int key, int length) {
        int sum = 0;
        for (int i = 0; i < length && i < row.length && i < keys.length; i++) {
            if (keys[i] == key) {
                sum += row[i];
            }
        }
        return sum;
    }

    private Sale standing() {
        sale.reckon();
        return sale;
    }

    private Sale tried() {
        trialSale.reckon();
        return trialSale;
    }

    private Sale tryTerm(int what, int v) {
        if (what >= 0 && what < TERMS) {
            trial.terms[what] = v;
        }
        return tried();
    }

    private Sale tryRate(int bid, int rate) {
        if (trial.hasBid(bid)) {
            trial.rates[bid] = rate;
        }
        return tried();
    }

    /** The lines of the RECORD, the latest first. */
    private static final class Ledger {
        private final int[] stops = new int[MOST_LINES];
        private final int[] averages = new int[MOST_LINES];
        private final int[] sold = new int[MOST_LINES];
        private final long[] payments = new long[MOST_LINES];
        private int lines = 0;

        private void copyFrom(Ledger other) {
            lines = other.lines;
            for (int k = 0; k < MOST_LINES; k++) {
                stops[k] = other.stops[k];
                averages[k] = other.averages[k];
                sold[k] = other.sold[k];
                payments[k] = other.payments[k];
            }
        }

        private boolean hasLine(int k) {
            return k >= 0 && k < lines;
        }

        private void add(int stop, int average, int lots, long payment) {
            for (int k = MOST_LINES - 1; k > 0; k--) {
                stops[k] = stops[k - 1];
                averages[k] = averages[k - 1];
                sold[k] = sold[k - 1];
                payments[k] = payments[k - 1];
            }
            stops[0] = stop;
            averages[0] = average;
            sold[0] = lots;
            payments[0] = payment;
            lines = Math.min(MOST_LINES, lines + 1);
        }

        private int soldInAll() {
            int sum = 0;
            for (int k = 0; k < lines; k++) {
                sum += sold[k];
            }
            return sum;
        }

        private int meanStop() {
            int sum = 0;
            int with = 0;
            for (int k = 0; k < lines; k++) {
                if (stops[k] != NOTHING) {
                    sum += stops[k];
                    with++;
                }
            }
            return with > 0 ? sum / with : NOTHING;
        }

        private int greatestStop() {
            int greatest = NOTHING;
            for (int k = 0; k < lines; k++) {
                greatest = Math.max(greatest, stops[k]);
            }
            return greatest;
        }

        private int leastStop() {
            int least = NOTHING;
            for (int k = 0; k < lines; k++) {
                if (stops[k] != NOTHING && (least == NOTHING || stops[k] < least)) {
                    least = stops[k];
                }
            }
            return least;
        }
    }

    /** All that ACTS change: TERMS, HOUSES, BIDS and the RECORD. */
    private static final class Book {
        private final int[] terms = new int[TERMS];
        private final int[] holds = new int[HOUSES];
        private final int[] owners = new int[HOUSES];
        private final int[] houses = new int[MOST_BIDS];
        private final int[] rates = new int[MOST_BIDS];
        private final int[] lots = new int[MOST_BIDS];
        private final Ledger ledger = new Ledger();
        private int bids = 0;

        private Book() {
            begin();
        }

        private void begin() {
            for (int what = 0; what < TERMS; what++) {
                terms[what] = FIRST[what];
            }
            for (int house = 0; house < HOUSES; house++) {
                holds[house] = 0;
                owners[house] = house;
            }
            bids = 0;
            ledger.lines = 0;
        }

        private void copyFrom(Book other) {
            for (int what = 0; what < TERMS; what++) {
                terms[what] = other.terms[what];
            }
            for (int house = 0; house < HOUSES; house++) {
                holds[house] = other.holds[house];
                owners[house] = other.owners[house];
            }
            bids = other.bids;
            for (int i = 0; i < bids; i++) {
                houses[i] = other.houses[i];
                rates[i] = other.rates[i];
                lots[i] = other.lots[i];
            }
            ledger.copyFrom(other.ledger);
        }

        private boolean hasBid(int bid) {
            return bid >= 0 && bid < bids;
        }

        private boolean termFits(int what, int v) {
            if (what < 0 || what >= TERMS || v < LEAST[what] || v > MOST[what]) {
                return false;
            }
            if (what == FROM) {
                return v <= terms[TO];
            }
            return what != TO || v >= terms[FROM];
        }

        private void insert(int at, int house, int rate, int amount) {
            if (at < 0 || at > bids || bids >= MOST_BIDS) {
                return;
            }
            for (int i = bids; i > at; i--) {
                houses[i] = houses[i - 1];
                rates[i] = rates[i - 1];
                lots[i] = lots[i - 1];
            }
            houses[at] = house;
            rates[at] = rate;
            lots[at] = amount;
            bids++;
        }

        private void remove(int at) {
            if (!hasBid(at)) {
                return;
            }
            bids--;
            for (int i = at; i < bids; i++) {
                houses[i] = houses[i + 1];
                rates[i] = rates[i + 1];
                lots[i] = lots[i + 1];
            }
        }

        // From the end on, so that a removal moves no BID that is still to be looked at.
        private void removeAllOf(int house) {
            for (int i = bids - 1; i >= 0; i--) {
                if (houses[i] == house) {
                    remove(i);
                }
            }
        }

        private void join(int house) {
            for (int i = bids - 1; i > 0; i--) {
                int first = firstLike(i);
                if (houses[i] == house && first < i) {
                    lots[first] = Math.min(MOST_LOTS, lots[first] + lots[i]);
                    remove(i);
                }
            }
        }

        private int firstLike(int bid) {
            for (int i = 0; i < bid; i++) {
                if (houses[i] == houses[bid] && rates[i] == rates[bid]) {
                    return i;
                }
            }
            return bid;
        }

        private int priceAt(int rate) {
            return 1000000 - rate * terms[DAYS] * 100 / 360;
        }

        private int lotsOf(int house) {
            return sumWhere(lots, houses, house, bids);
        }

        private int ownedBy(int owner) {
            int owned = 0;
            for (int house = 0; house < HOUSES; house++) {
                if (owners[house] == owner) {
                    owned++;
                }
            }
            return owned;
        }

        private int ownersInAll() {
            int owning = 0;
            for (int owner = 0; owner < HOUSES; owner++) {
                if (ownedBy(owner) > 0) {
                    owning++;
                }
            }
            return owning;
        }

        private int plainBids() {
            int plain = 0;
            for (int i = 0; i < bids; i++) {
                if (rates[i] == PLAIN) {
                    plain++;
                }
            }
            return plain;
        }

        private int housesWithBids() {
            int bidding = 0;
            for (int house = 0; house < HOUSES; house++) {
                if (lotsOf(house) > 0) {
                    bidding++;
                }
            }
            return bidding;
        }
    }

    /** What was ahead of each of the latest ACTS, in a ring. */
    private static final class Past {
        private final Book[] kept = new Book[MOST_ACTS];
        private int next = 0;
        private int acts = 0;

        private Past() {
            for (int i = 0; i < MOST_ACTS; i++) {
                kept[i] = new Book();
            }
        }

        private void keep(Book book) {
            Book free = kept[next];
            if (free == null) {
                return;
            }
            free.copyFrom(book);
            next = (next + 1) % MOST_ACTS;
            acts = Math.min(MOST_ACTS, acts + 1);
        }

        private void giveBack(Book book) {
            int latest = (next + MOST_ACTS - 1) % MOST_ACTS;
            Book was = kept[latest];
            if (acts < 1 || was == null) {
                return;
            }
            book.copyFrom(was);
            next = latest;
            acts--;
        }

        private void forget() {
            acts = 0;
        }
    }

    /** What of a Book's BIDS is ADMITTED and SOLD, as of the latest reckon(). */
    private static final class Sale {
        private final Book book;
        private final int[] order = new int[MOST_BIDS];
        private final int[] admitted = new int[MOST_BIDS];
        private final int[] why = new int[MOST_BIDS];
        private final int[] sold = new int[MOST_BIDS];
        private final int[] rests = new int[MOST_BIDS];
        private final int[] rooms = new int[HOUSES];
        private final int[] roomLeft = new int[HOUSES];
        private int inOrder = 0;
        private int admittedPlain;
        private int admittedRated;
        private int pool;
        private int soldPlain;
        private int rest;
        private int stop;
        private int soldRated;
        private boolean parted;
        private int average;

        private Sale(Book book) {
            this.book = book;
        }

        private void reckon() {
            rank();
            openRooms();
            admit();
            sellPlain();
            sellRated();
            average = averageRate();
        }

        // The latest order is sorted on: calls that try many things in a row find it nearly right.
        private void rank() {
            if (inOrder != book.bids) {
                inOrder = book.bids;
                for (int k = 0; k < inOrder; k++) {
                    order[k] = k;
                }
            }
            for (int k = 1; k < inOrder; k++) {
                int bid = order[k];
                int place = k;
                while (place > 0 && isAhead(bid, order[place - 1])) {
                    order[place] = order[place - 1];
                    place--;
                }
                order[place] = bid;
            }
        }

        private boolean isAhead(int bid, int other) {
            int rate = book.rates[bid];
            int otherRate = book.rates[other];
            return rate < otherRate || (rate == otherRate && bid < other);
        }

        private void openRooms() {
            int room = book.terms[LIMIT] * book.terms[OFFER] / 100;
            for (int owner = 0; owner < HOUSES; owner++) {
                rooms[owner] = room;
            }
            for (int house = 0; house < HOUSES; house++) {
                rooms[book.owners[house]] -= book.holds[house];
            }
            for (int owner = 0; owner < HOUSES; owner++) {
                rooms[owner] = Math.max(0, rooms[owner]);
                roomLeft[owner] = rooms[owner];
            }
        }

        private void admit() {
            admittedPlain = 0;
            admittedRated = 0;
            for (int k = 0; k < inOrder; k++) {
                int bid = order[k];
                admitOne(bid);
                if (book.rates[bid] == PLAIN) {
                    admittedPlain += admitted[bid];
                } else {
                    admittedRated += admitted[bid];
                }
            }
        }

        private void admitOne(int bid) {
            if (isOutOfBounds(book.rates[bid])) {
                admitted[bid] = 0;
                why[bid] = WHY_BOUNDS;
                return;
            }
            int owner = book.owners[book.houses[bid]];
            admitted[bid] = Math.min(book.lots[bid], roomLeft[owner]);
            roomLeft[owner] -= admitted[bid];
            why[bid] = admitted[bid] < book.lots[bid] ? WHY_ROOM : 0;
        }

        private boolean isOutOfBounds(int rate) {
            return rate != PLAIN && (rate < book.terms[FROM] || rate > book.terms[TO]);
        }

        private void sellPlain() {
            pool = book.terms[SHARE] * book.terms[OFFER] / 100;
            soldPlain = Math.min(pool, admittedPlain);
            sellAt(PLAIN, pool, admittedPlain);
            rest = book.terms[OFFER] - soldPlain;
        }

        private void sellRated() {
            stop = findStop();
            int below = 0;
            int atStop = 0;
            for (int i = 0; i < inOrder; i++) {
                int rate = book.rates[i];
                if (rate == PLAIN) {
                    continue;
                }
                sold[i] = rate < stop ? admitted[i] : 0;
                below += sold[i];
                atStop += rate == stop ? admitted[i] : 0;
            }
            int left = rest - below;
            parted = left < atStop;
            soldRated = below + Math.min(left, atStop);
            sellAt(stop, left, atStop);
        }

        private int findStop() {
            int sum = 0;
            int greatest = NOTHING;
            for (int k = 0; k < inOrder && sum < rest; k++) {
                int bid = order[k];
                if (book.rates[bid] != PLAIN && admitted[bid] > 0) {
                    sum += admitted[bid];
                    greatest = book.rates[bid];
                }
            }
            return greatest;
        }

        // BIDS of one rate: in full where the amount is enough for their total, else the amount is their PART.
        private void sellAt(int rate, int amount, int total) {
            if (total > amount && total > 0) {
                sellPart(rate, amount, total);
                return;
            }
            for (int i = 0; i < inOrder; i++) {
                if (book.rates[i] == rate) {
                    sold[i] = admitted[i];
                }
            }
        }

        private void sellPart(int rate, int amount, int total) {
            int left = amount;
            for (int i = 0; i < inOrder; i++) {
                rests[i] = 0;
                if (book.rates[i] == rate && total > 0) {
                    int product = admitted[i] * amount;
                    sold[i] = product / total;
                    rests[i] = product % total;
                    left -= sold[i];
                }
            }
            for (int n = 0; n < left && n < inOrder; n++) {
                giveOneMore();
            }
        }

        // A rest is emptied once it has brought its LOT, so that none gets one twice.
        private void giveOneMore() {
            int best = NONE;
            int greatest = 0;
            for (int i = 0; i < inOrder; i++) {
                if (rests[i] > greatest) {
                    greatest = rests[i];
                    best = i;
                }
            }
            if (best >= 0) {
                sold[best]++;
                rests[best] = 0;
            }
        }

        private int averageRate() {
            if (soldRated < 1) {
                return book.terms[FROM];
            }
            int sum = 0;
            for (int i = 0; i < inOrder; i++) {
                if (book.rates[i] != PLAIN) {
                    sum += book.rates[i] * sold[i];
                }
            }
            return sum / soldRated;
        }

        private int soldInAll() {
            return soldPlain + soldRated;
        }

        private int soldTo(int house) {
            return sumWhere(sold, book.houses, house, inOrder);
        }

        private int soldUnder(int owner) {
            int sum = 0;
            for (int i = 0; i < inOrder; i++) {
                if (book.owners[book.houses[i]] == owner) {
                    sum += sold[i];
                }
            }
            return sum;
        }

        private int soldAtRate(int rate) {
            return sumWhere(sold, book.rates, rate, inOrder);
        }

        private int admittedOf(int house) {
            return sumWhere(admitted, book.houses, house, inOrder);
        }

        private int admittedAt(int rate) {
            return sumWhere(admitted, book.rates, rate, inOrder);
        }

        private int admittedUpTo(int rate) {
            int sum = 0;
            for (int i = 0; i < inOrder; i++) {
                if (book.rates[i] != PLAIN && book.rates[i] <= rate) {
                    sum += admitted[i];
                }
            }
            return sum;
        }

        private int bidsAt(int rate) {
            int bids = 0;
            for (int i = 0; i < inOrder; i++) {
                if (book.rates[i] == rate && admitted[i] > 0) {
                    bids++;
                }
            }
            return bids;
        }

        private int bidsWithWhy(int reason) {
            int bids = 0;
            for (int i = 0; i < inOrder; i++) {
                if (why[i] == reason) {
                    bids++;
                }
            }
            return bids;
        }

        // The k-th YIELD, rising, at which something is ADMITTED; NONE if there is no k-th.
        private int rateOfStep(int k) {
            int steps = 0;
            int latest = NONE;
            for (int i = 0; i < inOrder; i++) {
                int rate = book.rates[order[i]];
                if (rate == PLAIN || rate == latest || admitted[order[i]] == 0) {
                    continue;
                }
                if (steps == k) {
                    return rate;
                }
                latest = rate;
                steps++;
            }
            return NONE;
        }

        private long paysFor(int bid) {
            int rate = stop == NOTHING ? book.terms[FROM] : stop;
            if (book.terms[METHOD] == OWN) {
                rate = book.rates[bid] == PLAIN ? average : book.rates[bid];
            }
            return (long) sold[bid] * book.priceAt(rate);
        }

        private long paysOf(int house) {
            long sum = 0;
            for (int i = 0; i < inOrder; i++) {
                if (book.houses[i] == house) {
                    sum += paysFor(i);
                }
            }
            return sum;
        }

        private long paysInAll() {
            long sum = 0;
            for (int i = 0; i < inOrder; i++) {
                sum += paysFor(i);
            }
            return sum;
        }

        private int coverOfOffer() {
            int offer = book.terms[OFFER];
            return offer > 0 ? (admittedPlain + admittedRated) * 100 / offer : 0;
        }

        private int figure(int what) {
            switch (what) {
                case 0:
                    return stop;
                case 1:
                    return average;
                case 2:
                    return stop == NOTHING ? NOTHING : stop - average;
                case 3:
                    return soldInAll();
                case 4:
                    return soldPlain;
                case 5:
                    return pool;
                case 6:
                    return rest;
                case 7:
                    return admittedRated;
                case 8:
                    return coverOfOffer();
                case 9:
                    return bidsAt(stop);
                case 10:
                    return parted ? 1 : 0;
                case 11:
                    return book.terms[OFFER] - soldInAll();
                default:
                    return NONE;
            }
        }
    }

    /** The bytes that are told and not yet read. */
    private static final class Tape {
        private final int[] bytes = new int[MOST_TAPE];
        private int length = 0;

        private boolean hasRoomForFive() {
            return length + 20 <= MOST_TAPE;
        }

        private void addFour(int four) {
            for (int shift = 24; shift >= 0; shift -= 8) {
                if (length < MOST_TAPE) {
                    bytes[length] = (four >>> shift) & 255;
                    length++;
                }
            }
        }

        private int at(int place) {
            return place >= 0 && place < length ? bytes[place] : NONE;
        }
    }

    /** Reads a Tape as a TEXT into a Book; at the first FAULT it stops, and the Book is of no use. */
    private static final class Reader {
        private final Tape tape;
        private final Book book;
        private int place;
        private int wordStart;
        private int fault;

        private Reader(Tape tape, Book book) {
            this.tape = tape;
            this.book = book;
        }

        /** The FAULT, or NONE. */
        private int readAll() {
            book.begin();
            place = 0;
            fault = NONE;
            skipBlanks();
            // No statement is without a byte, so there are no more of them than bytes.
            for (int n = 0; n < MOST_TAPE && place < tape.length && fault == NONE; n++) {
                readStatement();
                readSemicolon();
                skipBlanks();
            }
            return fault;
        }

        private void readStatement() {
            takeWord();
            if (wordIs("offer")) {
                readTerm(OFFER);
            } else if (wordIs("limit")) {
                readTerm(LIMIT);
            } else if (wordIs("share")) {
                readTerm(SHARE);
            } else if (wordIs("yields")) {
                readYields();
            } else if (wordIs("days")) {
                readTerm(DAYS);
            } else if (wordIs("one")) {
                book.terms[METHOD] = 0;
            } else if (wordIs("own")) {
                book.terms[METHOD] = OWN;
            } else if (wordIs("holds")) {
                readPair(book.holds, MOST_HELD);
            } else if (wordIs("owner")) {
                readPair(book.owners, HOUSES - 1);
            } else if (wordIs("bid") && book.bids < MOST_BIDS) {
                readBid(true);
            } else if (wordIs("plain") && book.bids < MOST_BIDS) {
                readBid(false);
            } else {
                fail(wordStart);
            }
        }

        private void readTerm(int what) {
            if (what >= 0 && what < TERMS) {
                book.terms[what] = readNumber(LEAST[what], MOST[what]);
            }
        }

        private void readYields() {
            int from = readNumber(0, MOST_RATE);
            expectWord("to");
            book.terms[TO] = readNumber(from, MOST_RATE);
            book.terms[FROM] = from;
        }

        private void readPair(int[] row, int most) {
            int house = readNumber(0, HOUSES - 1);
            int value = readNumber(0, most);
            if (house >= 0 && house < row.length && fault == NONE) {
                row[house] = value;
            }
        }

        private void readBid(boolean rated) {
            int house = readNumber(0, HOUSES - 1);
            int rate = rated ? readNumber(0, MOST_RATE) : PLAIN;
            expectWord("lots");
            int lots = readNumber(1, MOST_LOTS);
            book.insert(book.bids, house, rate, lots);
        }

        private void expectWord(String word) {
            takeWord();
            if (!wordIs(word)) {
                fail(wordStart);
            }
        }

        private void readSemicolon() {
            skipBlanks();
            if (tape.at(place) == ';') {
                place++;
            } else {
                fail(place);
            }
        }

        /** The number, or its least value at a FAULT. */
        private int readNumber(int least, int most) {
            skipBlanks();
            int start = place;
            int value = 0;
            while (place < tape.length && isDigit(tape.at(place))) {
                if (place - start < MOST_DIGITS) {
                    value = value * 10 + tape.at(place) - '0';
                }
                place++;
            }
            int digits = place - start;
            boolean isNumber = digits >= 1 && digits <= MOST_DIGITS && !isGlued(start);
            if (!isNumber || value < least || value > most) {
                fail(start);
                return least;
            }
            return value;
        }

        // The next WORD is what lies between wordStart and place then; none, if it has no letter or is glued.
        private void takeWord() {
            skipBlanks();
            wordStart = place;
            if (isGlued(place)) {
                return;
            }
            while (place < tape.length && isLetter(tape.at(place))) {
                place++;
            }
        }

        private boolean wordIs(String word) {
            if (place - wordStart != word.length()) {
                return false;
            }
            for (int i = 0; i < word.length(); i++) {
                if (tape.at(wordStart + i) != word.charAt(i)) {
                    return false;
                }
            }
            return true;
        }

        private boolean isGlued(int start) {
            int ahead = tape.at(start - 1);
            return isLetter(ahead) || isDigit(ahead);
        }

        private void skipBlanks() {
            while (place < tape.length && isBlank(tape.at(place))) {
                place++;
            }
        }

        private void fail(int where) {
            if (fault == NONE) {
                fault = where;
            }
        }
    }

    /** Spells a Book as a TEXT; no more of it is kept than its length and the one byte that is wanted. */
    private static final class Speller {
        private int wanted;
        private int length;
        private int found;

        private void write(Book book, int place) {
            wanted = place;
            length = 0;
            found = NOTHING;
            writeTerms(book);
            for (int house = 0; house < HOUSES; house++) {
                if (book.holds[house] != 0) {
                    writePair("holds ", house, book.holds[house]);
                }
            }
            for (int house = 0; house < HOUSES; house++) {
                if (book.owners[house] != house) {
                    writePair("owner ", house, book.owners[house]);
                }
            }
            for (int i = 0; i < book.bids; i++) {
                writeBid(book.houses[i], book.rates[i], book.lots[i]);
            }
        }

        private void writeTerms(Book book) {
            writeSigns("offer ");
            writeNumber(book.terms[OFFER]);
            writeSigns(";limit ");
            writeNumber(book.terms[LIMIT]);
            writeSigns(";share ");
            writeNumber(book.terms[SHARE]);
            writeSigns(";yields ");
            writeNumber(book.terms[FROM]);
            writeSigns(" to ");
            writeNumber(book.terms[TO]);
            writeSigns(";days ");
            writeNumber(book.terms[DAYS]);
            writeSigns(book.terms[METHOD] == OWN ? ";own;" : ";one;");
        }

        private void writePair(String word, int house, int value) {
            writeSigns(word);
            writeNumber(house);
            writeSigns(" ");
            writeNumber(value);
            writeSigns(";");
        }

        private void writeBid(int house, int rate, int lots) {
            writeSigns(rate == PLAIN ? "plain " : "bid ");
            writeNumber(house);
            if (rate != PLAIN) {
                writeSigns(" ");
                writeNumber(rate);
            }
            writeSigns(" lots ");
            writeNumber(lots);
            writeSigns(";");
        }

        private void writeSigns(String signs) {
            for (int i = 0; i < signs.length(); i++) {
                writeSign(signs.charAt(i));
            }
        }

        private void writeNumber(int value) {
            boolean begun = false;
            for (int unit = 10000; unit > 0; unit /= 10) {
                int digit = value / unit % 10;
                begun = begun || digit > 0 || unit == 1;
                if (begun) {
                    writeSign('0' + digit);
                }
            }
        }

        private void writeSign(int sign) {
            if (length == wanted) {
                found = sign;
            }
            length++;
        }
    }
}
