/** Promises 16 to 31, sentence by sentence; SIX is reckoned by hand in AskedTest. */
final class AskedSays {
    private static final int LEAST = Integer.MIN_VALUE;
    private static final int MOST = Integer.MAX_VALUE;
    private static final int[] NO_BIDS = {-1, 6, 30, LEAST, MOST};
    private static final int[] NO_HOUSES = {-1, 8, LEAST, MOST};
    private static final int[] NO_YIELDS = {-1, -2, 1000, LEAST, MOST};

    private AskedSays() {
    }

    static void run() {
        asTerm();
        of();
        pays();
        house();
        result();
        resultAtStop();
        paid();
        mean();
        filled();
        dearest();
        price();
        upTo();
        ranked();
        full();
        crowded();
        step();
    }

    private static BillTender six() {
        return Check.told(AskedTest.SIX);
    }

    private static void asTerm() {
        Doc.says("16", "TERMS as in term().");
        BillTender x = Check.told("offer 7;limit 8;share 9;yields 10 to 11;days 12;own;");
        Check.row("asTerm", x::asTerm, 7, 8, 9, 10, 11, 12, 1);
        Doc.says("16", "NONE for others.");
        int[] others = {-1, 7, LEAST, MOST};
        for (int what : others) {
            Check.due("asTerm " + what, x.asTerm(what), -1);
        }
    }

    private static void of() {
        Doc.says("17", "Of a BID: 0 HOUSE,");
        BillTender x = six();
        Check.row("HOUSE of", i -> x.of(i, 0), 0, 1, 2, 3, 0, 4);
        Doc.says("17", "1 YIELD (-2: PLAIN),");
        Check.row("YIELD of", i -> x.of(i, 1), 300, 310, -2, 310, -2, 320);
        Check.due("YIELD 0", Check.told("bid 0 0 lots 1;").of(0, 1), 0);
        Doc.says("17", "2 LOTS,");
        Check.row("LOTS of", i -> x.of(i, 2), 30, 40, 10, 30, 15, 50);
        Doc.says("17", "3 ADMITTED,");
        BillTender y = Check.told("offer 100;limit 20;share 10;yields 1 to 9;bid 0 5 lots 15;bid 0 6 lots 15;bid 1 10 lots 1;plain 2 lots 20;bid 3 0 lots 1;");
        Check.row("ADMITTED of", i -> y.of(i, 3), 15, 5, 0, 20, 0);
        Doc.says("17", "4 WHY (0 in full),");
        Check.row("WHY of", i -> y.of(i, 4), 0, 2, 1, 0, 1);
        Doc.says("17", "5 SOLD.");
        Check.row("SOLD of", i -> y.of(i, 5), 15, 5, 0, 10, 0);
        Check.row("SOLD of", i -> x.of(i, 5), 30, 29, 8, 21, 12, 0);
        Doc.says("17", "NONE for others.");
        for (int i : NO_BIDS) {
            Check.row("of " + i + ", what", what -> x.of(i, what), -1, -1, -1, -1, -1, -1, -1);
        }
        int[] whats = {-1, 6, LEAST, MOST};
        for (int what : whats) {
            Check.due("of 0, what " + what, x.of(0, what), -1);
            Check.due("of a PLAIN one, what " + what, x.of(2, what), -1);
        }
    }

    private static void pays() {
        Doc.says("18", "What a BID PAYS.");
        BillTender x = six();
        Check.row("pays", x::pays, 29_070_000L, 28_101_000L, 7_752_000L, 20_349_000L, 11_628_000L, 0);
        Check.due("the most", Check.told("offer 2000;limit 100;bid 0 0 lots 1000;").pays(0), 1_000_000_000L);
        Doc.says("18", "NONE: no such one.");
        for (int i : NO_BIDS) {
            Check.due("pays " + i, x.pays(i), -1);
        }
        Check.due("of none", new BillTender().pays(0), -1);
    }

    private static void house() {
        BillTender x = Check.told("offer 100;limit 20;share 10;holds 0 3;owner 5 0;bid 0 5 lots 15;bid 5 6 lots 5;plain 5 lots 9;bid 0 1 lots 2;");
        Doc.says("19", "Of a HOUSE: 0 HOLDS,");
        Check.row("HOLDS", h -> x.house(h, 0), 3, 0, 0, 0, 0, 0, 0, 0);
        Doc.says("19", "1 ROOM,");
        Check.row("ROOM", h -> x.house(h, 1), 17, 20, 20, 20, 20, 17, 20, 20);
        Doc.says("19", "2 LOTS of its BIDS,");
        Check.row("LOTS", h -> x.house(h, 2), 17, 0, 0, 0, 0, 14, 0, 0);
        Doc.says("19", "3 ADMITTED,");
        // ROOM 17: 9 PLAIN, 2 at 1, 6 of 15 at 5, nothing at 6.
        Check.row("ADMITTED", h -> x.house(h, 3), 8, 0, 0, 0, 0, 9, 0, 0);
        Doc.says("19", "4 SOLD,");
        Check.row("SOLD", h -> x.house(h, 4), 8, 0, 0, 0, 0, 9, 0, 0);
        Check.due("SOLD, not ADMITTED", six().house(4, 4), 0);
        Doc.says("19", "5 its OWNER,");
        Check.row("OWNER", h -> x.house(h, 5), 0, 1, 2, 3, 4, 0, 6, 7);
        Doc.says("19", "6 how many HOUSES have it as OWNER.");
        Check.row("have it", h -> x.house(h, 6), 2, 1, 1, 1, 1, 0, 1, 1);
        BillTender all = Check.told("owner 0 7;owner 1 7;owner 2 7;owner 3 7;owner 4 7;owner 5 7;owner 6 7;");
        Check.row("have it", h -> all.house(h, 6), 0, 0, 0, 0, 0, 0, 0, 8);
        Doc.says("19", "NONE for others.");
        for (int h : NO_HOUSES) {
            Check.row("house " + h + ", what", what -> x.house(h, what), -1, -1, -1, -1, -1, -1, -1, -1);
        }
        int[] whats = {-1, 7, LEAST, MOST};
        for (int what : whats) {
            Check.due("house 0, what " + what, x.house(0, what), -1);
        }
        Doc.says("20", "What a HOUSE PAYS in all.");
        BillTender y = six();
        Check.row("housePays", y::housePays, 40_698_000L, 28_101_000L, 7_752_000L, 20_349_000L, 0, 0, 0, 0);
        Check.due("the most", Check.told("offer 2000;limit 100;bid 0 0 lots 1000;bid 0 0 lots 1000;").housePays(0), 2_000_000_000L);
        Doc.says("20", "NONE: no such one.");
        for (int h : NO_HOUSES) {
            Check.due("housePays " + h, y.housePays(h), -1);
        }
    }

    private static void result() {
        BillTender x = six();
        BillTender empty = new BillTender();
        Doc.says("21", "0 STOP,");
        Check.due("STOP", x.result(0), 310);
        Check.due("STOP of none", empty.result(0), -2);
        Doc.says("21", "1 AVERAGE,");
        // 30 at 300 and 50 at 310: 24,500 by 80.
        Check.due("AVERAGE", x.result(1), 306);
        Check.due("AVERAGE of none", Check.told("yields 7 to 8;").result(1), 7);
        Doc.says("21", "2 TAIL (STOP less AVERAGE;");
        Check.due("TAIL", x.result(2), 4);
        Check.due("TAIL of one YIELD", Check.told("bid 0 9 lots 1;").result(2), 0);
        Doc.says("21", "-2, if STOP is -2),");
        Check.due("TAIL of none", Check.told("yields 7 to 8;").result(2), -2);
        Check.due("TAIL by REST 0", Check.told("offer 1;limit 100;share 100;yields 7 to 8;plain 0 lots 1;bid 0 7 lots 1;").result(2), -2);
        Doc.says("21", "3 SOLD,");
        Check.due("SOLD", x.result(3), 100);
        Check.due("SOLD of none", empty.result(3), 0);
        Doc.says("21", "4 SOLD to PLAIN ones,");
        Check.due("SOLD to PLAIN ones", x.result(4), 20);
        Check.due("to fewer than POOL", Check.told("plain 0 lots 3;").result(4), 3);
        Check.due("to none", Check.told("bid 0 5 lots 3;").result(4), 0);
        Doc.says("21", "5 POOL,");
        Check.due("POOL", x.result(5), 20);
        Check.due("POOL without PLAIN ones", Check.told("offer 99;share 50;").result(5), 49);
        Doc.says("21", "6 REST,");
        Check.due("REST", x.result(6), 80);
        Check.due("REST without PLAIN ones", empty.result(6), 100);
        Doc.says("21", "7 ADMITTED of those with YIELDS,");
        Check.due("ADMITTED", x.result(7), 150);
        Check.due("by bounds and ROOM", Check.told("limit 10;yields 0 to 5;bid 0 5 lots 11;bid 1 6 lots 3;plain 2 lots 4;").result(7), 10);
        Doc.says("21", "8 COVER (ADMITTED of all by OFFER, in hundredths, cut),");
        Check.due("COVER", x.result(8), 175);
        Check.due("COVER, cut", Check.told("offer 7;limit 100;share 0;bid 0 1 lots 2;plain 1 lots 3;").result(8), 71);
        Check.due("COVER of none", empty.result(8), 0);
        Check.due("COVER of the most", Check.told("offer 1;limit 100;bid 0 1 lots 9;bid 1 1 lots 9;plain 2 lots 9;bid 3 1 lots 9;").result(8), 400);
        Doc.says("21", "11 LOTS of OFFER that aren't SOLD.");
        Check.due("none", x.result(11), 0);
        Check.due("all", empty.result(11), 100);
        Check.due("some", Check.told("offer 10;limit 100;share 10;plain 0 lots 5;bid 0 5 lots 2;").result(11), 7);
        Doc.says("21", "NONE for others.");
        int[] others = {-1, 12, LEAST, MOST};
        for (int what : others) {
            Check.due("result " + what, x.result(what), -1);
        }
    }

    private static void resultAtStop() {
        Doc.says("21", "9 BIDS at STOP that are ADMITTED,");
        Check.due("two", six().result(9), 2);
        // HOUSE 0 has no ROOM left for its second one.
        BillTender x = Check.told("offer 10;limit 50;share 0;bid 0 5 lots 5;bid 0 5 lots 1;bid 1 5 lots 1;");
        Check.due("one isn't ADMITTED", x.result(9), 2);
        Check.due("without a STOP", Check.told("plain 0 lots 1;").result(9), 0);
        Check.due("of none", new BillTender().result(9), 0);
        // ADMITTED, though a PART leaves nothing for the second.
        Check.due("SOLD nothing", Check.told("offer 1;limit 100;share 0;bid 0 5 lots 1;bid 1 5 lots 1;").result(9), 2);
        Doc.says("21", "10 1 if those at STOP get a PART,");
        Check.due("a PART", six().result(10), 1);
        Check.due("just enough", Check.told("offer 9;limit 100;share 0;bid 0 5 lots 9;bid 1 6 lots 9;").result(10), 0);
        Check.due("one LOT short", Check.told("offer 8;limit 100;share 0;bid 0 5 lots 4;bid 1 5 lots 5;").result(10), 1);
        Check.due("of one BID alone", Check.told("offer 8;limit 100;share 0;bid 0 5 lots 7;bid 1 4 lots 2;").result(10), 1);
        Check.due("all are less", Check.told("offer 8;limit 100;share 0;bid 0 5 lots 7;").result(10), 0);
        Check.due("PLAIN ones alone get one", Check.told("offer 8;limit 100;share 50;plain 0 lots 7;bid 1 5 lots 1;").result(10), 0);
        Check.due("REST is 0", Check.told("offer 8;limit 100;share 100;plain 0 lots 8;bid 1 5 lots 1;").result(10), 0);
    }

    private static void paid() {
        Doc.says("22", "What all PAY.");
        BillTender x = six();
        Check.due("by ONE", x.paid(), 96_900_000L);
        x.term(6, 1);
        Check.due("by OWN", x.paid(), 96_938_000L);
        Check.due("of none", new BillTender().paid(), 0);
        Check.due("the most", Check.told("offer 2000;limit 100;bid 0 0 lots 1000;bid 1 0 lots 1000;").paid(), 2_000_000_000L);
    }

    private static void mean() {
        Doc.says("23", "What a HOUSE PAYS by LOT in the mean (cut);");
        BillTender x = six();
        x.term(6, 1);
        // 40,732,800 by 42 is 969,828 and a rest.
        Check.due("mean by OWN", x.mean(0), 969_828L);
        x.term(6, 0);
        Check.due("mean by ONE", x.mean(0), 969_000L);
        Check.due("mean of 1 LOT", Check.told("days 360;bid 0 9 lots 1;").mean(0), 999_100L);
        Doc.says("23", "-2: it is SOLD nothing.");
        Check.due("above STOP", x.mean(4), -2);
        Check.due("no BIDS", x.mean(7), -2);
        Check.due("no BIDS at all", new BillTender().mean(0), -2);
        Doc.says("23", "NONE: no such one.");
        for (int h : NO_HOUSES) {
            Check.due("mean " + h, x.mean(h), -1);
        }
    }

    private static void filled() {
        Doc.says("24", "SOLD of a BID by its LOTS, in hundredths (cut).");
        BillTender x = six();
        // 29 of 40 is 72.5.
        Check.row("filled", x::filled, 100, 72, 80, 70, 80, 0);
        Check.due("by LOTS, not ADMITTED", Check.told("offer 10;limit 40;share 0;bid 0 1 lots 7;").filled(0), 57);
        Check.due("1 of 1", Check.told("bid 0 1 lots 1;").filled(0), 100);
        Check.due("0 of 1", Check.told("offer 2;bid 0 1 lots 1;").filled(0), 0);
        Check.due("1 of 1,000", Check.told("offer 1;limit 100;share 0;bid 0 1 lots 1000;").filled(0), 0);
        Check.due("999 of 1,000", Check.told("offer 999;limit 100;share 0;bid 0 1 lots 1000;").filled(0), 99);
        Check.due("1,000 of 1,000", Check.told("offer 2000;limit 50;share 0;bid 0 1 lots 1000;").filled(0), 100);
        Doc.says("24", "NONE: no such one.");
        for (int i : NO_BIDS) {
            Check.due("filled " + i, x.filled(i), -1);
        }
    }

    private static void dearest() {
        Doc.says("25", "The BID that PAYS most,");
        Check.due("the last", Check.told("offer 10;limit 100;share 50;plain 0 lots 1;bid 1 5 lots 2;bid 2 6 lots 3;").dearest(), 2);
        Check.due("by LOTS SOLD, not bid", Check.told("offer 10;limit 100;share 0;bid 0 9 lots 9;bid 1 5 lots 6;").dearest(), 1);
        Check.due("by PRICE", Check.told("offer 10;limit 100;share 0;own;bid 0 9 lots 3;bid 1 5 lots 3;").dearest(), 1);
        Doc.says("25", "of several the first;");
        Check.due("by ONE all alike", Check.told("offer 10;limit 100;share 0;bid 0 9 lots 3;bid 1 5 lots 3;").dearest(), 0);
        Check.due("two alike", Check.told("offer 20;limit 100;share 0;own;bid 0 9 lots 3;bid 1 5 lots 3;bid 2 5 lots 3;").dearest(), 1);
        Check.due("none PAYS, all alike", Check.told("share 0;plain 0 lots 3;plain 1 lots 3;").dearest(), 0);
        Doc.says("25", "-2: there is none.");
        Check.due("none", new BillTender().dearest(), -2);
        BillTender x = Check.told("bid 0 5 lots 3;");
        x.settle();
        Check.due("none any more", x.dearest(), -2);
    }

    private static void price() {
        Doc.says("26", "PRICE of a YIELD (0 .. 999);");
        BillTender x = Check.told("days 7;");
        Check.due("price 0", x.price(0), 1_000_000);
        Check.due("price 1", x.price(1), 999_999);
        Check.due("price 999", x.price(999), 998_058);
        x.term(3, 500);
        Check.due("out of FROM and TO, too", x.price(1), 999_999);
        Doc.says("26", "NONE: another one.");
        for (int r : NO_YIELDS) {
            Check.due("price " + r, x.price(r), -1);
        }
    }

    private static void upTo() {
        Doc.says("27", "ADMITTED with YIELDS up to one (0 .. 999).");
        BillTender x = Check.told("limit 10;yields 1 to 998;bid 0 0 lots 1;bid 0 1 lots 2;bid 0 5 lots 9;bid 1 5 lots 4;plain 2 lots 5;bid 3 998 lots 3;bid 4 999 lots 1;");
        int[][] want = {{0, 0}, {1, 2}, {4, 2}, {5, 14}, {997, 14}, {998, 17}, {999, 17}};
        for (int[] w : want) {
            Check.due("upTo " + w[0], x.upTo(w[0]), w[1]);
        }
        Check.due("at YIELD 0", Check.told("bid 0 0 lots 1;").upTo(0), 1);
        Check.due("at YIELD 999", Check.told("bid 0 999 lots 1;").upTo(999), 1);
        Doc.says("27", "NONE: another one.");
        for (int r : NO_YIELDS) {
            Check.due("upTo " + r, x.upTo(r), -1);
        }
    }

    private static void ranked() {
        Doc.says("28", "The k-th BID as they are looked at: PLAIN ones by numbers,");
        BillTender x = Check.told("bid 0 0 lots 1;plain 7 lots 1;bid 1 5 lots 1;plain 0 lots 9;bid 2 0 lots 1;bid 3 4 lots 1;");
        Check.row("ranked", x::ranked, 1, 3);
        Doc.says("28", "then by YIELD, of alike ones by numbers");
        for (int k = 2; k < 6; k++) {
            Check.due("ranked " + k, x.ranked(k), new int[] {0, 4, 5, 2}[k - 2]);
        }
        x.move(4, 0);
        Check.row("ranked behind a move", x::ranked, 2, 4, 0, 1, 5, 3);
        Doc.says("28", "(those that aren't ADMITTED, too): its number.");
        BillTender y = Check.told("yields 5 to 6;holds 2 99;bid 0 9 lots 1;bid 2 5 lots 1;plain 2 lots 1;bid 1 4 lots 1;");
        Check.row("ADMITTED of", i -> y.of(i, 3), 0, 0, 0, 0);
        Check.row("ranked", y::ranked, 2, 3, 1, 0);
        Doc.says("28", "NONE: no such one.");
        for (int k : NO_BIDS) {
            Check.due("ranked " + k, x.ranked(k), -1);
        }
        Check.due("of none", new BillTender().ranked(0), -1);
        BillTender thirty = Check.told("bid 0 5 lots 1;".repeat(30));
        Check.due("the 30th", thirty.ranked(29), 29);
        Check.due("a 31st", thirty.ranked(30), -1);
    }

    private static void full() {
        Doc.says("29", "How many OWNERS (HOUSES that some have as OWNER)");
        // ROOM is 10: HOUSE 2 has none as OWNER; 0 has OWNER 1, 1 has OWNER 0.
        BillTender x = Check.told("offer 50;limit 20;share 0;owner 0 1;owner 1 0;owner 2 3;bid 0 1 lots 10;bid 2 1 lots 10;bid 3 2 lots 1;");
        Check.due("OWNERS 1 and 3", x.full(), 2);
        Doc.says("29", "are SOLD, with all their HOUSES, as much as ROOM is,");
        BillTender y = Check.told("offer 50;limit 20;share 0;owner 1 0;holds 1 3;bid 0 1 lots 3;bid 1 2 lots 3;");
        Check.due("one LOT short", y.full(), 0);
        y.change(0, 0, 4);
        Check.due("as much together", y.full(), 1);
        y.change(0, 0, 40);
        Check.due("more is bid", y.full(), 1);
        y.term(0, 49);
        Check.due("ROOM is 9 less 3", y.full(), 1);
        // ADMITTED up to ROOM, but SOLD less.
        Check.due("SOLD less", Check.told("offer 10;limit 60;share 0;bid 0 5 lots 6;bid 1 5 lots 6;").full(), 0);
        Check.due("one of two", Check.told("offer 10;limit 60;share 0;bid 0 5 lots 6;bid 1 6 lots 6;").full(), 1);
        Doc.says("29", "and some.");
        Check.due("1 LOT of 1", Check.told("offer 1;limit 100;share 0;bid 0 5 lots 1;bid 1 6 lots 1;").full(), 1);
        Check.due("no BIDS, no ROOM", Check.told("offer 1;limit 1;").full(), 0);
        Check.due("BIDS without ROOM", Check.told("offer 1;limit 1;bid 0 5 lots 1;plain 1 lots 1;").full(), 0);
        Check.due("ROOM is held", Check.told("holds 0 35;bid 0 5 lots 1;").full(), 0);
        Check.due("none", new BillTender().full(), 0);
    }

    private static void crowded() {
        Doc.says("30", "The sum of squares of hundredths (cut) that HOUSES have of all that is SOLD");
        // 4, 6, 10, 9 of 29: 13, 20, 34, 31 hundredths.
        BillTender x = Check.told("offer 50;limit 20;share 0;bid 0 1 lots 4;bid 1 2 lots 6;bid 2 3 lots 12;bid 3 4 lots 9;");
        Check.due("four", x.crowded(), 169 + 400 + 1156 + 961);
        Check.due("one has all", Check.told("limit 100;share 50;plain 0 lots 3;bid 0 1 lots 3;").crowded(), 10000);
        Check.due("1 LOT", Check.told("bid 3 1 lots 1;").crowded(), 10000);
        Check.due("OWNERS don't count", Check.told("limit 100;owner 1 0;bid 0 1 lots 3;bid 1 1 lots 3;").crowded(), 5000);
        Check.due("eight", Check.told("limit 100;bid 0 1 lots 1;bid 1 1 lots 1;bid 2 1 lots 1;bid 3 1 lots 1;bid 4 1 lots 1;bid 5 1 lots 1;"
            + "bid 6 1 lots 1;bid 7 1 lots 1;").crowded(), 8 * 144);
        // 1 of 101 is 0 hundredths.
        Check.due("less than a hundredth", Check.told("offer 101;limit 100;share 0;bid 0 1 lots 1;bid 1 1 lots 100;").crowded(), 99 * 99);
        Doc.says("30", "(0, if nothing is).");
        Check.due("no BIDS", new BillTender().crowded(), 0);
        Check.due("nothing SOLD", Check.told("share 0;plain 0 lots 3;").crowded(), 0);
    }

    private static void step() {
        BillTender x = six();
        BillTender y = Check.told("offer 10;limit 50;share 0;yields 2 to 8;bid 0 1 lots 2;bid 0 3 lots 5;bid 0 4 lots 1;bid 1 5 lots 1;bid 0 5 lots 1;bid 1 9 lots 1;plain 2 lots 1;");
        Doc.says("31", "Of the k-th YIELD (rising) at which something is ADMITTED: 0 it,");
        Check.row("YIELD of step", k -> x.step(k, 0), 300, 310, 320);
        Check.row("YIELD of step", k -> y.step(k, 0), 3, 5, -1);
        Check.due("YIELD 0", Check.told("bid 0 0 lots 1;").step(0, 0), 0);
        Doc.says("31", "1 LOTS ADMITTED at it,");
        Check.row("LOTS of step", k -> x.step(k, 1), 30, 70, 50);
        Check.row("LOTS of step", k -> y.step(k, 1), 5, 1, -1);
        Doc.says("31", "2 with lesser ones, too,");
        Check.row("LOTS up to step", k -> x.step(k, 2), 30, 100, 150);
        Check.row("LOTS up to step", k -> y.step(k, 2), 5, 6, -1);
        Doc.says("31", "3 SOLD at it,");
        Check.row("SOLD at step", k -> x.step(k, 3), 30, 50, 0);
        Doc.says("31", "4 BIDS at it that are ADMITTED.");
        Check.row("BIDS at step", k -> x.step(k, 4), 1, 2, 1);
        Check.row("BIDS at step", k -> y.step(k, 4), 1, 1, -1);
        Doc.says("31", "NONE: no such ones.");
        int[][] wrong = {{3, 0}, {3, 1}, {3, 4}, {-1, 0}, {0, 5}, {0, -1}, {LEAST, 0}, {MOST, 0}, {0, LEAST}, {0, MOST}};
        for (int[] w : wrong) {
            Check.due("step " + w[0] + " " + w[1], x.step(w[0], w[1]), -1);
        }
        Check.due("of none", new BillTender().step(0, 0), -1);
        Check.due("nothing is ADMITTED", Check.told("yields 5 to 6;bid 0 4 lots 1;plain 0 lots 1;").step(0, 0), -1);
        StringBuilder thirty = new StringBuilder("limit 100;share 0;");
        for (int i = 29; i >= 0; i--) {
            thirty.append("bid 0 ").append(i).append(" lots 1;");
        }
        BillTender z = Check.told(thirty.toString());
        Check.due("the 30th", z.step(29, 0), 29);
        Check.due("a 31st", z.step(30, 0), -1);
    }
}
