/** Promises 16 to 31: what is ADMITTED, SOLD and PAID. */
public final class AskedTest {
    /** STOP 310 with a PART of two BIDS, PLAIN ones a PART of POOL; every figure here is reckoned by hand. */
    static final String SIX = "offer 100;limit 50;share 20;yields 0 to 999;days 360;one;bid 0 300 lots 30;bid 1 310 lots 40;"
        + "plain 2 lots 10;bid 3 310 lots 30;plain 0 lots 15;bid 4 320 lots 50;";
    private static final int LEAST = Integer.MIN_VALUE;
    private static final int MOST = Integer.MAX_VALUE;

    public static void main(String[] args) {
        asTerm();
        of();
        admittedByBounds();
        admittedByRoom();
        ownersOfOwners();
        parts();
        pays();
        house();
        result();
        resultAtTheEdges();
        meanAndFilled();
        dearest();
        price();
        upToAndRanked();
        fullAndCrowded();
        step();
        oneLot();
        thirty();
        Check.finish();
    }

    private static void row(String name, BillTender x, int what, int... want) {
        for (int i = 0; i < want.length; i++) {
            Check.due(name + " of(" + i + ", " + what + ")", x.of(i, what), want[i]);
        }
    }

    private static void results(String name, BillTender x, int... want) {
        for (int i = 0; i < want.length; i++) {
            Check.due(name + " result(" + i + ")", x.result(i), want[i]);
        }
    }

    private static void asTerm() {
        BillTender x = Check.told("offer 7;limit 8;share 9;yields 10 to 11;days 12;own;");
        int[] want = {7, 8, 9, 10, 11, 12, 1};
        for (int what = 0; what < 7; what++) {
            Check.due("16: asTerm " + what, x.asTerm(what), want[what]);
        }
        Check.due("16: others", x.asTerm(7), -1);
        Check.due("16: others", x.asTerm(-1), -1);
        Check.due("16: others", x.asTerm(LEAST), -1);
    }

    private static void of() {
        BillTender x = Check.told(SIX);
        row("17:", x, 0, 0, 1, 2, 3, 0, 4);
        row("17:", x, 1, 300, 310, -2, 310, -2, 320);
        row("17:", x, 2, 30, 40, 10, 30, 15, 50);
        row("17:", x, 3, 30, 40, 10, 30, 15, 50);
        row("17:", x, 4, 0, 0, 0, 0, 0, 0);
        row("17:", x, 5, 30, 29, 8, 21, 12, 0);
        int[][] wrong = {{-1, 0}, {6, 0}, {0, 6}, {0, -1}, {LEAST, 0}, {MOST, 0}, {0, MOST}};
        for (int[] w : wrong) {
            Check.due("17: of " + w[0] + " " + w[1], x.of(w[0], w[1]), -1);
        }
    }

    private static void admittedByBounds() {
        BillTender x = Check.told("offer 100;limit 100;yields 5 to 7;bid 0 4 lots 1;bid 0 5 lots 2;bid 0 7 lots 3;bid 0 8 lots 4;plain 0 lots 5;");
        row("17: bounds", x, 3, 0, 2, 3, 0, 5);
        row("17: bounds", x, 4, 1, 0, 0, 1, 0);
        row("17: bounds", x, 5, 0, 2, 3, 0, 5);
    }

    private static void admittedByRoom() {
        // ROOM is 35 of 99 in a hundred, cut: 34; less 4 that are held: 30. PLAIN ones go ahead, then lesser YIELDS, then lesser numbers.
        BillTender x = Check.told("offer 99;limit 35;share 100;holds 0 4;bid 0 9 lots 8;bid 0 2 lots 10;bid 0 9 lots 8;plain 0 lots 9;"
            + "bid 0 1000 lots 1;".replace("1000", "999") + "plain 0 lots 1;");
        Check.due("17: ROOM", x.house(0, 1), 30);
        row("17: room", x, 3, 8, 10, 2, 9, 0, 1);
        row("17: room", x, 4, 0, 0, 2, 0, 2, 0);
        // A BID that is out of bounds takes no ROOM.
        x.term(3, 3);
        row("17: room without", x, 3, 8, 0, 8, 9, 1, 1);
        row("17: room without", x, 4, 0, 1, 0, 0, 0, 0);
        // Houses of one OWNER share its ROOM, and what they HOLD counts for all.
        BillTender y = Check.told("offer 100;limit 20;share 50;holds 1 3;holds 2 4;owner 1 2;bid 2 5 lots 10;bid 1 4 lots 9;plain 1 lots 2;bid 3 6 lots 25;");
        row("17: one OWNER", y, 3, 2, 9, 2, 20);
        row("17: one OWNER", y, 4, 2, 0, 0, 2);
        Check.due("17: more is held than the limit", y.hold(2, 18), 4);
        row("17: no ROOM", y, 3, 0, 0, 0, 20);
        row("17: no ROOM", y, 4, 2, 2, 2, 2);
    }

    private static void ownersOfOwners() {
        // 1 is owned by 0, 0 by 3: what 0 does counts for 3, not for 1.
        BillTender x = Check.told("offer 100;limit 20;share 0;owner 1 0;owner 0 3;holds 0 5;holds 3 6;bid 1 1 lots 30;bid 0 1 lots 4;bid 3 1 lots 30;");
        Check.due("19: ROOM of 1", x.house(1, 1), 20);
        Check.due("19: ROOM of 0", x.house(0, 1), 9);
        Check.due("19: ROOM of 3", x.house(3, 1), 9);
        row("19:", x, 3, 20, 4, 5);
        Check.due("19: have 0", x.house(0, 6), 1);
        Check.due("19: have 1", x.house(1, 6), 0);
        Check.due("19: have 3", x.house(3, 6), 2);
    }

    private static void parts() {
        // Rests are alike: the least numbers get the LOTS that are left, one each.
        BillTender x = Check.told("offer 8;limit 100;share 0;bid 0 5 lots 3;bid 1 5 lots 3;bid 2 5 lots 3;");
        row("17: alike", x, 5, 3, 3, 2);
        // 7 of 10: 2.1, 2.1, 2.8: the third has the greatest rest.
        BillTender y = Check.told("offer 7;limit 100;share 0;bid 0 5 lots 3;bid 1 5 lots 3;bid 2 5 lots 4;");
        row("17: greatest rest", y, 5, 2, 2, 3);
        // PART goes by what is ADMITTED, not by LOTS: 2 of 2 is ROOM, so 2, 2, 2 share 5.
        BillTender z = Check.told("offer 5;limit 40;share 0;bid 0 5 lots 3;bid 1 5 lots 9;bid 2 5 lots 2;");
        row("17: by ADMITTED", z, 3, 2, 2, 2);
        row("17: by ADMITTED", z, 5, 2, 2, 1);
        // One that is ADMITTED with nothing gets nothing of a PART.
        BillTender w = Check.told("offer 5;limit 40;share 0;holds 0 2;bid 0 5 lots 3;bid 1 5 lots 9;bid 2 5 lots 2;bid 3 5 lots 2;");
        row("17: nothing of a PART", w, 5, 0, 2, 2, 1);
        // A POOL of nothing leaves PLAIN ones without.
        BillTender v = Check.told("offer 4;limit 100;share 24;plain 0 lots 3;bid 1 5 lots 9;");
        row("17: no POOL", v, 5, 0, 4);
        BillTender t = Check.told("offer 4;limit 100;share 24;plain 0 lots 1;bid 1 5 lots 9;");
        row("17: no POOL for one LOT", t, 5, 0, 4);
        // The LOT that is left goes to one at STOP, not to one beside it.
        BillTender r = Check.told("offer 1;limit 100;share 0;bid 0 9 lots 1;bid 1 5 lots 1;bid 2 5 lots 1;");
        row("17: one LOT for two", r, 5, 0, 1, 0);
        // PLAIN ones that are just the POOL are SOLD in full.
        BillTender u = Check.told("offer 10;limit 100;share 39;plain 0 lots 2;plain 1 lots 1;bid 1 5 lots 9;");
        row("17: just the POOL", u, 5, 2, 1, 7);
    }

    private static void pays() {
        BillTender x = Check.told(SIX);
        // By ONE all pay the price of 310 on 360 days: 969,000.
        long[] one = {29_070_000L, 28_101_000L, 7_752_000L, 20_349_000L, 11_628_000L, 0};
        for (int i = 0; i < 6; i++) {
            Check.due("18: ONE " + i, x.pays(i), one[i]);
        }
        Check.due("20: ONE", x.housePays(0), 40_698_000L);
        Check.due("20: ONE", x.housePays(4), 0);
        Check.due("20: ONE", x.housePays(7), 0);
        Check.due("22: ONE", x.paid(), 96_900_000L);
        x.term(6, 1);
        // By OWN: 970,000 and 969,000, PLAIN ones the price of the AVERAGE 306: 969,400.
        long[] own = {29_100_000L, 28_101_000L, 7_755_200L, 20_349_000L, 11_632_800L, 0};
        for (int i = 0; i < 6; i++) {
            Check.due("18: OWN " + i, x.pays(i), own[i]);
        }
        Check.due("20: OWN", x.housePays(0), 40_732_800L);
        Check.due("22: OWN", x.paid(), 96_938_000L);
        Check.due("18: no such", x.pays(6), -1);
        Check.due("18: no such", x.pays(-1), -1);
        Check.due("20: no such", x.housePays(8), -1);
        Check.due("20: no such", x.housePays(-1), -1);
        // Without a STOP it is FROM, by OWN as the AVERAGE.
        BillTender y = Check.told("offer 100;yields 40 to 50;share 20;days 360;plain 0 lots 5;bid 0 60 lots 9;");
        Check.due("22: no STOP, ONE", y.paid(), 5 * 996_000L);
        y.term(6, 1);
        Check.due("22: no STOP, OWN", y.paid(), 5 * 996_000L);
        BillTender z = Check.told("offer 2000;limit 100;share 0;bid 0 0 lots 1000;bid 1 0 lots 1000;");
        Check.due("22: the most", z.paid(), 2_000_000_000L);
        Check.due("22: no BIDS", new BillTender().paid(), 0);
    }

    private static void house() {
        BillTender x = Check.told(SIX + "holds 0 3;owner 5 0;");
        int[][] want = {{3, 47, 45, 45, 42, 0, 2}, {0, 50, 40, 40, 29, 1, 1}, {0, 50, 10, 10, 8, 2, 1}, {0, 50, 30, 30, 21, 3, 1},
            {0, 50, 50, 50, 0, 4, 1}, {0, 47, 0, 0, 0, 0, 0}};
        for (int h = 0; h < want.length; h++) {
            for (int what = 0; what < 7; what++) {
                Check.due("19: house(" + h + ", " + what + ")", x.house(h, what), want[h][what]);
            }
        }
        int[][] wrong = {{-1, 0}, {8, 0}, {0, -1}, {0, 7}, {LEAST, 0}, {0, MOST}};
        for (int[] w : wrong) {
            Check.due("19: house of " + w[0] + " " + w[1], x.house(w[0], w[1]), -1);
        }
    }

    private static void result() {
        BillTender x = Check.told(SIX);
        results("21:", x, 310, 306, 4, 100, 20, 20, 80, 150, 175, 2, 1, 0, -1);
        Check.due("21: others", x.result(-1), -1);
        Check.due("21: others", x.result(LEAST), -1);
        // Just enough at STOP: no PART.
        BillTender y = Check.told("offer 10;limit 100;share 0;bid 0 3 lots 4;bid 1 5 lots 6;bid 2 7 lots 1;");
        results("21: just enough", y, 5, 4, 1, 10, 0, 0, 10, 11, 110, 1, 0, 0);
        // Enough already below: the greater YIELD is not STOP.
        y.change(0, 0, 10);
        results("21: enough below", y, 3, 3, 0, 10, 0, 0, 10, 17, 170, 1, 0, 0);
        // All are less: STOP is the greatest that is ADMITTED.
        BillTender z = Check.told("offer 100;limit 50;share 10;yields 0 to 8;bid 0 3 lots 4;bid 1 8 lots 6;bid 2 9 lots 9;bid 3 7 lots 2;plain 4 lots 3;");
        results("21: all are less", z, 8, 6, 2, 15, 3, 10, 97, 12, 15, 1, 0, 85);
        // One at the greatest YIELD without ROOM is not ADMITTED and makes no STOP.
        BillTender w = Check.told("offer 10;limit 50;share 0;bid 0 3 lots 5;bid 0 8 lots 1;");
        results("21: no ROOM at the greatest", w, 3, 3, 0, 5, 0, 0, 10, 5, 50, 1, 0, 5);
    }

    private static void resultAtTheEdges() {
        // REST is 0: no STOP, nothing is SOLD to those with YIELDS, AVERAGE is FROM.
        BillTender x = Check.told("offer 10;limit 100;share 100;yields 2 to 9;plain 0 lots 10;bid 1 5 lots 9;");
        results("21: no REST", x, -2, 2, -2, 10, 10, 10, 0, 9, 190, 0, 0, 0);
        Check.due("21: nothing SOLD", x.of(1, 5), 0);
        results("21: no BIDS", new BillTender(), -2, 0, -2, 0, 0, 20, 100, 0, 0, 0, 0, 100);
        BillTender plain = Check.told("offer 10;limit 100;share 55;plain 0 lots 9;");
        results("21: PLAIN ones alone", plain, -2, 0, -2, 5, 5, 5, 5, 0, 90, 0, 0, 5);
        // COVER and AVERAGE are cut.
        BillTender y = Check.told("offer 7;limit 100;share 0;bid 0 1 lots 2;bid 1 4 lots 3;");
        results("21: cut", y, 4, 2, 2, 5, 0, 0, 7, 5, 71, 1, 0, 2);
        BillTender zero = Check.told("offer 7;limit 100;share 0;bid 0 0 lots 9;");
        results("21: STOP 0", zero, 0, 0, 0, 7, 0, 0, 7, 7, 100, 1, 0, 0);
    }

    private static void meanAndFilled() {
        BillTender x = Check.told(SIX);
        Check.due("23: mean by ONE", x.mean(0), 969_000L);
        x.term(6, 1);
        // 40,732,800 by 42 LOTS.
        Check.due("23: mean by OWN", x.mean(0), 969_828L);
        Check.due("23: SOLD nothing", x.mean(4), -2);
        Check.due("23: no BIDS", x.mean(7), -2);
        Check.due("23: no such", x.mean(8), -1);
        Check.due("23: no such", x.mean(-1), -1);
        int[] want = {100, 72, 80, 70, 80, 0};
        for (int i = 0; i < 6; i++) {
            Check.due("24: filled " + i, x.filled(i), want[i]);
        }
        Check.due("24: no such", x.filled(6), -1);
        Check.due("24: no such", x.filled(-1), -1);
        BillTender y = Check.told("offer 10;limit 40;share 0;bid 0 1 lots 7;");
        Check.due("24: by LOTS, not ADMITTED", y.filled(0), 57);
    }

    private static void dearest() {
        Check.due("25: none", new BillTender().dearest(), -2);
        Check.due("25: most", Check.told(SIX).dearest(), 0);
        BillTender x = Check.told("offer 10;limit 100;share 0;own;bid 0 5 lots 3;bid 1 4 lots 3;bid 2 4 lots 3;");
        Check.due("25: of several the first", x.dearest(), 1);
        BillTender y = Check.told("offer 10;limit 100;share 0;plain 0 lots 3;plain 1 lots 3;");
        Check.due("25: none PAYS", y.dearest(), 0);
    }

    private static void price() {
        BillTender x = new BillTender();
        Check.due("26: 0", x.price(0), 1_000_000);
        Check.due("26: 1", x.price(1), 999_975);
        Check.due("26: 999", x.price(999), 975_025);
        Check.due("26: above", x.price(1000), -1);
        Check.due("26: below", x.price(-1), -1);
        x.term(5, 1);
        // 100 by 360 is 0, 999 times 100 by 360 is 277 (cut).
        Check.due("26: one day", x.price(1), 1_000_000);
        Check.due("26: one day", x.price(999), 999_723);
        x.term(5, 360);
        Check.due("26: all days", x.price(999), 900_100);
    }

    private static void upToAndRanked() {
        BillTender x = Check.told(SIX);
        int[][] upTo = {{0, 0}, {299, 0}, {300, 30}, {309, 30}, {310, 100}, {319, 100}, {320, 150}, {999, 150}, {1000, -1}, {-1, -1}, {LEAST, -1}};
        for (int[] u : upTo) {
            Check.due("27: upTo " + u[0], x.upTo(u[0]), u[1]);
        }
        int[] ranked = {2, 4, 0, 1, 3, 5, -1};
        for (int k = 0; k < ranked.length; k++) {
            Check.due("28: ranked " + k, x.ranked(k), ranked[k]);
        }
        Check.due("28: below", x.ranked(-1), -1);
        x.term(3, 305);
        x.term(1, 1);
        Check.due("28: those that aren't ADMITTED, too", x.ranked(2), 0);
        Check.due("27: only what is ADMITTED", x.upTo(999), 3);
        x.change(0, 1, 999);
        Check.due("28: last now", x.ranked(5), 0);
        x.move(5, 0);
        Check.due("28: by numbers", x.ranked(0), 3);
        BillTender y = Check.told("bid 0 9 lots 1;bid 1 8 lots 1;bid 2 7 lots 1;");
        Check.due("28: of three", y.ranked(0), 2);
        y.withdraw(0);
        Check.due("28: of two", y.ranked(0), 1);
        Check.due("28: of two", y.ranked(1), 0);
    }

    private static void fullAndCrowded() {
        // ROOM is 10: 0 and 1 together, 2 alone are full; 3 is SOLD less; 4 has no ROOM and nothing.
        BillTender x = Check.told("offer 50;limit 20;share 0;holds 4 10;owner 1 0;bid 0 1 lots 4;bid 1 2 lots 6;bid 2 3 lots 12;bid 3 4 lots 9;bid 4 5 lots 9;");
        Check.due("29: full", x.full(), 2);
        // 4, 6, 10, 9 of 29: 13, 20, 34, 31 hundredths.
        Check.due("30: crowded", x.crowded(), 169 + 400 + 1156 + 961);
        Check.due("29: none", new BillTender().full(), 0);
        Check.due("30: none", new BillTender().crowded(), 0);
        // An OWNER that has another OWNER counts by those that have it, not by itself.
        BillTender y = Check.told("offer 50;limit 20;share 0;owner 1 0;owner 0 3;bid 0 1 lots 10;bid 1 2 lots 9;");
        Check.due("29: of 3 alone", y.full(), 1);
        y.change(1, 0, 10);
        Check.due("29: of 0, too", y.full(), 2);
        BillTender z = Check.told("offer 10;limit 100;share 0;plain 0 lots 3;");
        Check.due("30: nothing SOLD", z.crowded(), 0);
        BillTender one = Check.told("offer 10;limit 100;share 50;plain 0 lots 3;bid 0 1 lots 3;");
        Check.due("30: one has all", one.crowded(), 10000);
    }

    private static void step() {
        BillTender x = Check.told(SIX);
        int[][] want = {{300, 30, 30, 30, 1}, {310, 70, 100, 50, 2}, {320, 50, 150, 0, 1}};
        for (int k = 0; k < 3; k++) {
            for (int what = 0; what < 5; what++) {
                Check.due("31: step(" + k + ", " + what + ")", x.step(k, what), want[k][what]);
            }
        }
        int[][] wrong = {{3, 0}, {-1, 0}, {0, 5}, {0, -1}, {LEAST, 0}, {MOST, 0}};
        for (int[] w : wrong) {
            Check.due("31: step of " + w[0] + " " + w[1], x.step(w[0], w[1]), -1);
        }
        // A YIELD at which nothing is ADMITTED is no step, a BID at a step that isn't ADMITTED isn't counted.
        BillTender y = Check.told("offer 10;limit 50;share 0;yields 2 to 8;bid 0 1 lots 2;bid 0 3 lots 5;bid 0 4 lots 1;bid 1 5 lots 1;bid 0 5 lots 1;bid 1 9 lots 1;");
        Check.due("31: first", y.step(0, 0), 3);
        Check.due("31: second", y.step(1, 0), 5);
        Check.due("31: its BIDS", y.step(1, 4), 1);
        Check.due("31: no third", y.step(2, 0), -1);
        BillTender zero = Check.told("bid 0 0 lots 1;");
        Check.due("31: YIELD 0", zero.step(0, 0), 0);
        Check.due("31: no BIDS", new BillTender().step(0, 0), -1);
    }

    private static void oneLot() {
        BillTender x = Check.told("offer 1;limit 100;share 0;days 360;bid 0 9 lots 1;bid 3 7 lots 1;");
        results("21: one LOT", x, 7, 7, 0, 1, 0, 0, 1, 2, 200, 1, 0, 0);
        Check.due("23: one LOT", x.mean(3), 999_300L);
        Check.due("24: one LOT", x.filled(1), 100);
        Check.due("24: none of one LOT", x.filled(0), 0);
        Check.due("25: one LOT", x.dearest(), 1);
        Check.due("29: one LOT", x.full(), 1);
        Check.due("30: one LOT", x.crowded(), 10000);
    }

    /** Thirty BIDS, each fifth PLAIN, all SOLD in full; then fewer of them, so that nothing of those that went may count. */
    private static void thirty() {
        for (int n = 30; n >= 0; n--) {
            BillTender x = Check.told("offer 2000;limit 100;share 50;days 360;");
            for (int i = 0; i < 30; i++) {
                x.bid(i % 8, i % 5 == 0 ? -1 : 100, 1);
            }
            x.paid();
            for (int i = 29; i >= n; i--) {
                x.withdraw(i);
            }
            thirtyOrFewer(x, n);
        }
    }

    private static void thirtyOrFewer(BillTender x, int n) {
        int plain = (n + 4) / 5;
        int price = n > plain ? 990_000 : 1_000_000;
        Check.due("49: PLAIN of " + n, x.count(1), plain);
        Check.due("49: HOUSES of " + n, x.count(7), Math.min(8, n));
        Check.due("21: SOLD of " + n, x.result(3), n);
        Check.due("21: SOLD to PLAIN of " + n, x.result(4), plain);
        Check.due("21: AVERAGE of " + n, x.result(1), n > plain ? 100 : 0);
        Check.due("21: at STOP of " + n, x.result(9), n - plain);
        Check.due("22: PAY of " + n, x.paid(), (long) n * price);
        Check.due("27: up to of " + n, x.upTo(999), n - plain);
        Check.due("31: step of " + n, x.step(0, 3), n > plain ? n - plain : -1);
        Check.due("31: step of " + n, x.step(0, 1), n > plain ? n - plain : -1);
        Check.due("28: last of " + n, x.ranked(n - 1), n < 2 ? n - 1 : n - (n % 5 == 1 ? 2 : 1));
        Check.due("25: dearest of " + n, x.dearest(), n == 0 ? -2 : 0);
        for (int h = 0; h < 8; h++) {
            int of = (n + 7 - h) / 8;
            Check.due("19: LOTS of " + h + " of " + n, x.house(h, 2), of);
            Check.due("19: ADMITTED of " + h + " of " + n, x.house(h, 3), of);
            Check.due("19: SOLD of " + h + " of " + n, x.house(h, 4), of);
            Check.due("20: PAYS of " + h + " of " + n, x.housePays(h), (long) of * price);
            Check.due("42: SOLD of " + h + " at another of " + n, x.soldAllAt(h, 7), of);
        }
        // An OFFER of one LOT fewer than are bid with YIELDS isn't enough for these.
        Check.due("34: byTerm of " + n, x.byTerm(0, n - plain > 1 ? n - plain - 1 : 1, 10), n - plain > 1 ? 1 : 0);
        Check.due("29: full of " + n, x.full(), 0);
        Check.due("11: merge of " + n, x.merge(7) >= 1, n >= 24);
        if (n >= 24) {
            x.undo();
        }
    }
}
