import java.util.ArrayDeque;
import java.util.ArrayList;
import java.util.Arrays;
import java.util.Comparator;
import java.util.Deque;
import java.util.List;
import java.util.TreeSet;
import java.util.function.Predicate;
import java.util.function.ToLongFunction;
import java.util.stream.Collectors;
import java.util.stream.IntStream;

/** The document once more, as literally as the Java library lets one write it: what BillTender is compared with. */
final class Model {
    static final int NONE = -1;
    private static final int[] LOW = {1, 1, 0, 0, 0, 1, 0};
    private static final int[] HIGH = {2000, 100, 100, 999, 999, 360, 1};

    /** A BID; rate null is PLAIN. */
    record Bid(int house, Integer rate, int lots) {
        boolean plain() {
            return rate == null;
        }
    }

    record Line(int stop, int average, int sold, long paid) {
    }

    static final class State {
        int[] terms = {100, 35, 20, 0, 999, 90, 0};
        int[] holds = new int[8];
        int[] owners = {0, 1, 2, 3, 4, 5, 6, 7};
        List<Bid> bids = new ArrayList<>();
        List<Line> lines = new ArrayList<>();

        State copy() {
            State s = new State();
            s.terms = terms.clone();
            s.holds = holds.clone();
            s.owners = owners.clone();
            s.bids = new ArrayList<>(bids);
            s.lines = new ArrayList<>(lines);
            return s;
        }

        boolean fits(int what, int v) {
            if (what < 0 || what > 6 || v < LOW[what] || v > HIGH[what]) {
                return false;
            }
            int[] t = terms.clone();
            t[what] = v;
            return t[3] <= t[4];
        }

        State with(int what, int v) {
            State s = copy();
            s.terms[what] = v;
            return s;
        }

        State withBid(int i, Bid b) {
            State s = copy();
            s.bids.set(i, b);
            return s;
        }

        int price(int rate) {
            return 1_000_000 - rate * terms[5] * 100 / 360;
        }
    }

    /** ADMITTED, SOLD and all that follows, of one State. */
    static final class Out {
        final State s;
        final int n;
        final int[] admitted;
        final int[] why;
        final int[] sold;
        final List<Integer> ranked;
        int pool;
        int rest;
        int stop = -2;
        int average;
        boolean part;

        Out(State s) {
            this.s = s;
            n = s.bids.size();
            admitted = new int[n];
            why = new int[n];
            sold = new int[n];
            ranked = new ArrayList<>(all(b -> b.plain()));
            List<Integer> rated = new ArrayList<>(all(b -> !b.plain()));
            rated.sort(Comparator.comparing(i -> s.bids.get(i).rate()));
            ranked.addAll(rated);
            admit();
            sell();
        }

        List<Integer> all(Predicate<Bid> p) {
            return IntStream.range(0, n).filter(i -> p.test(s.bids.get(i))).boxed().collect(Collectors.toList());
        }

        int sum(int[] row, Predicate<Bid> p) {
            return all(p).stream().mapToInt(i -> row[i]).sum();
        }

        int room(int owner) {
            int held = IntStream.range(0, 8).filter(h -> s.owners[h] == owner).map(h -> s.holds[h]).sum();
            return Math.max(0, s.terms[1] * s.terms[0] / 100 - held);
        }

        void admit() {
            for (int owner = 0; owner < 8; owner++) {
                int left = room(owner);
                for (int i : ranked) {
                    Bid b = s.bids.get(i);
                    if (s.owners[b.house()] != owner) {
                        continue;
                    }
                    if (!b.plain() && (b.rate() < s.terms[3] || b.rate() > s.terms[4])) {
                        why[i] = 1;
                        continue;
                    }
                    admitted[i] = Math.min(left, b.lots());
                    left -= admitted[i];
                    why[i] = admitted[i] == b.lots() ? 0 : 2;
                }
            }
        }

        void part(List<Integer> some, int a, int t) {
            int given = 0;
            for (int i : some) {
                sold[i] = admitted[i] * a / t;
                given += sold[i];
            }
            List<Integer> byRest = new ArrayList<>(some);
            byRest.sort(Comparator.<Integer>comparingInt(i -> -(admitted[i] * a % t)).thenComparingInt(i -> i));
            for (int k = 0; given < a; k++, given++) {
                sold[byRest.get(k)]++;
            }
        }

        void sell() {
            pool = s.terms[2] * s.terms[0] / 100;
            int plain = sum(admitted, b -> b.plain());
            if (plain <= pool) {
                all(b -> b.plain()).forEach(i -> sold[i] = admitted[i]);
            } else {
                part(all(b -> b.plain()), pool, plain);
            }
            rest = s.terms[0] - sum(sold, b -> b.plain());
            if (rest > 0) {
                sellRated();
            }
            int lots = sum(sold, b -> !b.plain());
            int weight = all(b -> !b.plain()).stream().mapToInt(i -> s.bids.get(i).rate() * sold[i]).sum();
            average = lots == 0 ? s.terms[3] : weight / lots;
        }

        // STOP can be no other YIELD than one of these: elsewhere the LOTS up to a YIELD don't grow.
        int[] rates() {
            return all(b -> !b.plain()).stream().mapToInt(i -> s.bids.get(i).rate()).distinct().sorted().toArray();
        }

        void sellRated() {
            for (int rate : rates()) {
                if (sum(admitted, b -> !b.plain() && b.rate() <= rate) >= rest) {
                    stop = rate;
                    all(b -> !b.plain() && b.rate() < rate).forEach(i -> sold[i] = admitted[i]);
                    int left = rest - sum(admitted, b -> !b.plain() && b.rate() < rate);
                    List<Integer> last = all(b -> !b.plain() && b.rate() == rate);
                    int t = sum(admitted, b -> !b.plain() && b.rate() == rate);
                    part = left < t;
                    if (part) {
                        part(last, left, t);
                    } else {
                        last.forEach(i -> sold[i] = admitted[i]);
                    }
                    return;
                }
            }
            for (int i : all(b -> !b.plain())) {
                sold[i] = admitted[i];
                if (admitted[i] > 0) {
                    stop = Math.max(stop, s.bids.get(i).rate());
                }
            }
        }

        int soldAll() {
            return Arrays.stream(sold).sum();
        }

        int soldOf(int house) {
            return sum(sold, b -> b.house() == house);
        }

        long pays(int i) {
            Bid b = s.bids.get(i);
            if (s.terms[6] == 0) {
                return (long) sold[i] * s.price(stop == -2 ? s.terms[3] : stop);
            }
            return (long) sold[i] * s.price(b.plain() ? average : b.rate());
        }

        long paid(Predicate<Bid> p) {
            ToLongFunction<Integer> f = this::pays;
            return all(p).stream().mapToLong(f).sum();
        }

        int result(int what) {
            int[] told = {stop, average, stop == -2 ? -2 : stop - average, soldAll(), sum(sold, b -> b.plain()), pool, rest,
                sum(admitted, b -> !b.plain()), Arrays.stream(admitted).sum() * 100 / s.terms[0],
                (int) all(b -> !b.plain() && b.rate() == stop).stream().filter(i -> admitted[i] > 0).count(),
                part ? 1 : 0, s.terms[0] - soldAll()};
            return what < 0 || what >= told.length ? NONE : told[what];
        }
    }

    private State s = new State();
    private final Deque<State> past = new ArrayDeque<>();
    private String tape = "";

    private Out out() {
        return new Out(s);
    }

    private void act() {
        past.addLast(s.copy());
        if (past.size() > 12) {
            past.removeFirst();
        }
    }

    private boolean has(int bid) {
        return bid >= 0 && bid < s.bids.size();
    }

    private static boolean houseOk(int h) {
        return h >= 0 && h <= 7;
    }

    private static boolean rateOk(int r) {
        return r >= 0 && r <= 999;
    }

    public int feed(int a, int b, int c, int d, int e) {
        if (tape.length() > 680) {
            return NONE;
        }
        for (int w : new int[] {a, b, c, d, e}) {
            tape += "" + (char) (w >>> 24) + (char) (w >> 16 & 255) + (char) (w >> 8 & 255) + (char) (w & 255);
        }
        return tape.length();
    }

    public int back(int n) {
        if (n < 0 || n > tape.length()) {
            return NONE;
        }
        tape = tape.substring(0, tape.length() - n);
        return tape.length();
    }

    public int text() {
        ModelText t = new ModelText(tape);
        tape = "";
        if (t.fault >= 0) {
            return -4 - t.fault;
        }
        s = t.state;
        past.clear();
        return s.bids.size();
    }

    public int bid(int house, int rate, int lots) {
        if (!houseOk(house) || rate != NONE && !rateOk(rate) || lots < 1 || lots > 1000 || s.bids.size() == 30) {
            return NONE;
        }
        act();
        s.bids.add(new Bid(house, rate == NONE ? null : (Integer) rate, lots));
        return s.bids.size() - 1;
    }

    public boolean withdraw(int bid) {
        if (!has(bid)) {
            return false;
        }
        act();
        s.bids.remove(bid);
        return true;
    }

    public int change(int bid, int what, int v) {
        if (!has(bid) || what < 0 || what > 1) {
            return NONE;
        }
        Bid b = s.bids.get(bid);
        if (what == 0) {
            if (v < 1 || v > 1000 || v == b.lots()) {
                return NONE;
            }
            act();
            s.bids.set(bid, new Bid(b.house(), b.rate(), v));
            return b.lots();
        }
        if (b.plain() || !rateOk(v) || v == b.rate()) {
            return NONE;
        }
        act();
        s.bids.set(bid, new Bid(b.house(), v, b.lots()));
        return b.rate();
    }

    public int term(int what, int v) {
        if (!s.fits(what, v) || s.terms[what] == v) {
            return NONE;
        }
        act();
        int was = s.terms[what];
        s.terms[what] = v;
        return was;
    }

    public int own(int house, int owner) {
        if (!houseOk(house) || !houseOk(owner) || s.owners[house] == owner) {
            return NONE;
        }
        act();
        int was = s.owners[house];
        s.owners[house] = owner;
        return was;
    }

    public boolean split(int bid, int lots) {
        if (!has(bid) || lots < 1 || lots >= s.bids.get(bid).lots() || s.bids.size() == 30) {
            return false;
        }
        act();
        Bid b = s.bids.get(bid);
        s.bids.set(bid, new Bid(b.house(), b.rate(), lots));
        s.bids.add(bid + 1, new Bid(b.house(), b.rate(), b.lots() - lots));
        return true;
    }

    public int merge(int house) {
        List<Bid> joined = new ArrayList<>();
        for (Bid b : s.bids) {
            int at = -1;
            for (int i = 0; i < joined.size() && b.house() == house; i++) {
                Bid j = joined.get(i);
                if (j.house() == house && (b.plain() ? j.plain() : b.rate().equals(j.rate()))) {
                    at = i;
                }
            }
            if (at < 0) {
                joined.add(b);
            } else {
                joined.set(at, new Bid(house, b.rate(), Math.min(1000, joined.get(at).lots() + b.lots())));
            }
        }
        int went = s.bids.size() - joined.size();
        if (!houseOk(house) || went == 0) {
            return NONE;
        }
        act();
        s.bids = joined;
        return went;
    }

    public boolean move(int bid, int to) {
        if (!has(bid) || !has(to) || bid == to) {
            return false;
        }
        act();
        s.bids.add(to, s.bids.remove(bid));
        return true;
    }

    public int hold(int house, int lots) {
        if (!houseOk(house) || lots < 0 || lots > 9999 || s.holds[house] == lots) {
            return NONE;
        }
        act();
        int was = s.holds[house];
        s.holds[house] = lots;
        return was;
    }

    public int settle() {
        if (s.bids.isEmpty()) {
            return NONE;
        }
        act();
        Out o = out();
        for (int h = 0; h < 8; h++) {
            s.holds[h] = Math.min(9999, s.holds[h] + o.soldOf(h));
        }
        s.lines.add(0, new Line(o.stop, o.average, o.soldAll(), o.paid(b -> true)));
        if (s.lines.size() > 8) {
            s.lines.remove(8);
        }
        s.bids.clear();
        return s.lines.get(0).sold();
    }

    public int undo() {
        if (past.isEmpty()) {
            return NONE;
        }
        s = past.removeLast();
        return past.size();
    }

    public int asTerm(int what) {
        return what >= 0 && what <= 6 ? s.terms[what] : NONE;
    }

    public int of(int bid, int what) {
        if (!has(bid) || what < 0 || what > 5) {
            return NONE;
        }
        Bid b = s.bids.get(bid);
        Out o = out();
        return new int[] {b.house(), b.plain() ? -2 : b.rate(), b.lots(), o.admitted[bid], o.why[bid], o.sold[bid]}[what];
    }

    public long pays(int bid) {
        return has(bid) ? out().pays(bid) : NONE;
    }

    public int house(int house, int what) {
        if (!houseOk(house) || what < 0 || what > 6) {
            return NONE;
        }
        Out o = out();
        int lots = s.bids.stream().filter(b -> b.house() == house).mapToInt(Bid::lots).sum();
        return new int[] {s.holds[house], o.room(s.owners[house]), lots, o.sum(o.admitted, b -> b.house() == house),
            o.soldOf(house), s.owners[house], (int) Arrays.stream(s.owners).filter(w -> w == house).count()}[what];
    }

    public long housePays(int house) {
        return houseOk(house) ? out().paid(b -> b.house() == house) : NONE;
    }

    public int result(int what) {
        return out().result(what);
    }

    public long paid() {
        return out().paid(b -> true);
    }

    public long mean(int house) {
        if (!houseOk(house)) {
            return NONE;
        }
        int sold = out().soldOf(house);
        return sold == 0 ? -2 : housePays(house) / sold;
    }

    public int filled(int bid) {
        return has(bid) ? out().sold[bid] * 100 / s.bids.get(bid).lots() : NONE;
    }

    public int dearest() {
        Out o = out();
        return IntStream.range(0, o.n).boxed().max(Comparator.<Integer>comparingLong(o::pays).thenComparingInt(i -> -i)).orElse(-2);
    }

    public int price(int rate) {
        return rateOk(rate) ? s.price(rate) : NONE;
    }

    public int upTo(int rate) {
        Out o = out();
        return rateOk(rate) ? o.sum(o.admitted, b -> !b.plain() && b.rate() <= rate) : NONE;
    }

    public int ranked(int k) {
        return has(k) ? out().ranked.get(k) : NONE;
    }

    public int full() {
        Out o = out();
        int full = 0;
        for (int owner : new TreeSet<>(Arrays.stream(s.owners).boxed().toList())) {
            int sold = o.sum(o.sold, b -> s.owners[b.house()] == owner);
            full += sold > 0 && sold == o.room(owner) ? 1 : 0;
        }
        return full;
    }

    public int crowded() {
        Out o = out();
        int all = o.soldAll();
        return all == 0 ? 0 : IntStream.range(0, 8).map(h -> o.soldOf(h) * 100 / all).map(x -> x * x).sum();
    }

    public int step(int k, int what) {
        Out o = out();
        List<Integer> rates = IntStream.range(0, o.n).filter(i -> o.admitted[i] > 0 && !s.bids.get(i).plain())
            .mapToObj(i -> s.bids.get(i).rate()).distinct().sorted().toList();
        if (k < 0 || k >= rates.size() || what < 0 || what > 4) {
            return NONE;
        }
        int y = rates.get(k);
        Predicate<Bid> at = b -> !b.plain() && b.rate() == y;
        return new int[] {y, o.sum(o.admitted, at), upTo(y), o.sum(o.sold, at),
            (int) o.all(at).stream().filter(i -> o.admitted[i] > 0).count()}[what];
    }

    public int byOffer(int offer, int what) {
        return byTerm(0, offer, what);
    }

    public int offerFor(int rate) {
        return !rateOk(rate) ? NONE
            : IntStream.rangeClosed(1, 2000).filter(v -> new Out(s.with(0, v)).stop >= rate).findFirst().orElse(-2);
    }

    public int byTerm(int term, int v, int what) {
        return s.fits(term, v) ? new Out(s.with(term, v)).result(what) : NONE;
    }

    public int limitFor(int house, int lots) {
        return !houseOk(house) || lots < 1 ? NONE
            : IntStream.rangeClosed(1, 100).filter(v -> new Out(s.with(1, v)).soldOf(house) >= lots).findFirst().orElse(-2);
    }

    public int shareFor(int lots) {
        return lots < 1 ? NONE
            : IntStream.rangeClosed(0, 100).filter(v -> new Out(s.with(2, v)).result(4) >= lots).findFirst().orElse(-2);
    }

    public int lotsFor(int bid, int lots) {
        if (!has(bid) || lots < 1) {
            return NONE;
        }
        Bid b = s.bids.get(bid);
        return IntStream.rangeClosed(1, 1000)
            .filter(v -> new Out(s.withBid(bid, new Bid(b.house(), b.rate(), v))).sold[bid] >= lots).findFirst().orElse(-2);
    }

    public int bestOffer() {
        if (s.bids.isEmpty()) {
            return -2;
        }
        long[] paid = IntStream.rangeClosed(1, 2000).mapToLong(v -> new Out(s.with(0, v)).paid(b -> true)).toArray();
        long most = Arrays.stream(paid).max().getAsLong();
        return 1 + IntStream.range(0, 2000).filter(i -> paid[i] == most).findFirst().getAsInt();
    }

    public long paidBy(int method) {
        return method == 0 || method == 1 ? new Out(s.with(6, method)).paid(b -> true) : NONE;
    }

    public int soldAt(int bid, int rate) {
        if (!has(bid) || s.bids.get(bid).plain() || !rateOk(rate)) {
            return NONE;
        }
        Bid b = s.bids.get(bid);
        return new Out(s.withBid(bid, new Bid(b.house(), rate, b.lots()))).sold[bid];
    }

    public int yieldFor(int bid, int lots) {
        if (!has(bid) || s.bids.get(bid).plain() || lots < 1) {
            return NONE;
        }
        return IntStream.rangeClosed(0, 999).map(i -> 999 - i).filter(y -> soldAt(bid, y) >= lots).findFirst().orElse(-2);
    }

    public int soldAllAt(int house, int rate) {
        if (!houseOk(house) || !rateOk(rate)) {
            return NONE;
        }
        State t = s.copy();
        t.bids.replaceAll(b -> b.house() == house && !b.plain() ? new Bid(house, rate, b.lots()) : b);
        return new Out(t).soldOf(house);
    }

    public int stopWithout(int bid) {
        if (!has(bid)) {
            return NONE;
        }
        State t = s.copy();
        t.bids.remove(bid);
        return new Out(t).stop;
    }

    public int pivot() {
        int[] stops = IntStream.range(0, 8).map(h -> {
            State t = s.copy();
            t.bids.removeIf(b -> b.house() == h);
            return new Out(t).stop;
        }).toArray();
        int most = Arrays.stream(stops).max().getAsInt();
        return IntStream.range(0, 8).filter(h -> stops[h] == most).findFirst().getAsInt();
    }

    public int record(int k, int what) {
        if (k < 0 || k >= s.lines.size() || what < 0 || what > 2) {
            return NONE;
        }
        Line l = s.lines.get(k);
        return new int[] {l.stop(), l.average(), l.sold()}[what];
    }

    public int records(int what) {
        List<Integer> stops = s.lines.stream().map(Line::stop).filter(x -> x != -2).sorted().toList();
        int n = stops.size();
        switch (what) {
            case 0: return s.lines.stream().mapToInt(Line::sold).sum();
            case 1: return n == 0 ? -2 : stops.stream().mapToInt(x -> x).sum() / n;
            case 2: return n == 0 ? -2 : stops.get(n - 1);
            case 3: return n == 0 ? -2 : stops.get(0);
            default: return NONE;
        }
    }

    public long recordPaid(int k) {
        return k >= 0 && k < s.lines.size() ? s.lines.get(k).paid() : NONE;
    }

    String spelled() {
        StringBuilder t = new StringBuilder(String.format("offer %d;limit %d;share %d;yields %d to %d;days %d;%s;", s.terms[0],
            s.terms[1], s.terms[2], s.terms[3], s.terms[4], s.terms[5], s.terms[6] == 0 ? "one" : "own"));
        IntStream.range(0, 8).filter(h -> s.holds[h] > 0).forEach(h -> t.append("holds " + h + " " + s.holds[h] + ";"));
        IntStream.range(0, 8).filter(h -> s.owners[h] != h).forEach(h -> t.append("owner " + h + " " + s.owners[h] + ";"));
        s.bids.forEach(b -> t.append(b.plain() ? "plain " + b.house() : "bid " + b.house() + " " + b.rate())
            .append(" lots " + b.lots() + ";"));
        return t.toString();
    }

    public int spell(int i) {
        String t = spelled();
        return i < -1 ? NONE : i == -1 ? t.length() : i < t.length() ? t.charAt(i) : -2;
    }

    public int count(int what) {
        Out o = out();
        int[] told = {o.n, o.all(b -> b.plain()).size(), s.lines.size(), past.size(), tape.length(),
            (int) Arrays.stream(o.why).filter(w -> w == 1).count(), (int) Arrays.stream(o.why).filter(w -> w == 2).count(),
            (int) s.bids.stream().map(Bid::house).distinct().count(), (int) Arrays.stream(s.owners).distinct().count()};
        return what < 0 || what >= told.length ? NONE : told[what];
    }
}
