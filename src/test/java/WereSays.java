/** Promises 32 to 44, sentence by sentence; SIX is reckoned by hand in AskedTest. */
final class WereSays {
    private static final int LEAST = Integer.MIN_VALUE;
    private static final int MOST = Integer.MAX_VALUE;
    private static final int[] NO_HOUSES = {-1, 8, LEAST, MOST};
    private static final int[] NO_YIELDS = {-1, -2, 1000, LEAST, MOST};
    private static final int[] NO_WHATS = {-1, 12, LEAST, MOST};

    private WereSays() {
    }

    static void run() {
        byOffer();
        offerFor();
        byTerm();
        limitFor();
        shareFor();
        lotsFor();
        bestOffer();
        paidBy();
        soldAt();
        yieldFor();
        soldAllAt();
        stopWithout();
        pivot();
    }

    private static BillTender six() {
        return Check.told(AskedTest.SIX);
    }

    private static void byOffer() {
        Doc.says("32", "By an OFFER (1 .. 2,000) what result() tells.");
        BillTender x = six();
        // 60: ROOM 30, POOL 12, REST 48; HOUSE 0 has 15 PLAIN and 15 at 300, then 30 and 30 at 310 share 33.
        Check.row("byOffer 60", what -> x.byOffer(60, what), 310, 306, 4, 60, 12, 12, 48, 105, 216, 2, 1, 0);
        Check.row("as it is", what -> x.byOffer(100, what), 310, 306, 4, 100, 20, 20, 80, 150, 175, 2, 1, 0);
        // 1: ROOM and POOL are 0. 2,000: all 175 LOTS are SOLD, 25 of them to PLAIN ones.
        Check.row("byOffer 1", what -> x.byOffer(1, what), -2, 0, -2, 0, 0, 0, 1, 0, 0, 0, 0, 1);
        Check.row("byOffer 2000", what -> x.byOffer(2000, what), 320, 311, 9, 175, 25, 400, 1975, 150, 8, 1, 0, 1825);
        Doc.says("32", "NONE: another one,");
        int[] wrong = {0, 2001, -1, LEAST, MOST};
        for (int offer : wrong) {
            Check.due("byOffer " + offer, x.byOffer(offer, 0), -1);
            Check.due("byOffer " + offer, x.byOffer(offer, 3), -1);
        }
        Doc.says("32", "what.");
        for (int what : NO_WHATS) {
            Check.due("byOffer 60, what " + what, x.byOffer(60, what), -1);
        }
    }

    private static void offerFor() {
        Doc.says("33", "The least OFFER by which STOP were a YIELD (0 .. 999) or more;");
        BillTender x = Check.told("offer 5;limit 100;share 0;bid 0 3 lots 4;bid 1 5 lots 6;bid 2 9 lots 1;");
        int[][] want = {{0, 1}, {3, 1}, {4, 5}, {5, 5}, {6, 11}, {9, 11}};
        for (int[] w : want) {
            Check.due("offerFor " + w[0], x.offerFor(w[0]), w[1]);
        }
        Check.due("STOP 0", Check.told("limit 100;share 0;bid 0 0 lots 1;").offerFor(0), 1);
        Check.due("STOP 999 by the greatest OFFER", Check.told("limit 1;share 0;holds 0 19;bid 0 999 lots 4;").offerFor(999), 2000);
        // STOP falls as ROOM grows: from 30 on the LOTS at 3 are enough, by 2 there is ROOM for the one at 8 alone.
        BillTender y = Check.told("limit 50;share 0;holds 0 5;holds 1 5;holds 2 5;bid 0 3 lots 1000;bid 1 3 lots 1000;bid 2 3 lots 1000;bid 3 8 lots 1;");
        Check.due("STOP by 30", y.byOffer(30, 0), 3);
        Check.due("STOP by 2000", y.byOffer(2000, 0), 3);
        Check.due("by a lesser OFFER", y.offerFor(8), 2);
        Doc.says("33", "-2: by none.");
        Check.due("offerFor 10", x.offerFor(10), -2);
        Check.due("offerFor 999", x.offerFor(999), -2);
        Check.due("without ROOM", Check.told("limit 1;share 0;holds 0 20;bid 0 999 lots 4;").offerFor(0), -2);
        Check.due("of none", new BillTender().offerFor(0), -2);
        Check.due("PLAIN ones alone", Check.told("plain 0 lots 5;").offerFor(0), -2);
        // 2,001 would do, but is no OFFER.
        Check.due("by 2,001", Check.told("limit 100;share 0;bid 0 3 lots 1000;bid 1 3 lots 1000;bid 2 9 lots 1;").offerFor(9), -2);
        Check.due("by 2,000", Check.told("limit 100;share 0;bid 0 3 lots 1000;bid 1 3 lots 999;bid 2 9 lots 1;").offerFor(9), 2000);
        Doc.says("33", "NONE: another YIELD.");
        for (int r : NO_YIELDS) {
            Check.due("offerFor " + r, x.offerFor(r), -1);
        }
    }

    private static void byTerm() {
        Doc.says("34", "What result() tells, were a TERM (0 .. 6 as in term()) another number.");
        BillTender x = six();
        Check.due("OFFER", x.byTerm(0, 60, 8), 216);
        // LIMIT 20: HOUSE 0 has 15 PLAIN and 5, the others 20 each.
        Check.due("LIMIT", x.byTerm(1, 20, 7), 65);
        Check.due("SHARE", x.byTerm(2, 0, 4), 0);
        Check.due("SHARE", x.byTerm(2, 100, 4), 25);
        Check.due("FROM", x.byTerm(3, 301, 7), 120);
        Check.due("FROM for AVERAGE", x.byTerm(3, 999, 1), 999);
        Check.due("TO", x.byTerm(4, 300, 0), 300);
        Check.due("DAYS", x.byTerm(5, 1, 0), 310);
        Check.due("METHOD", x.byTerm(6, 1, 1), 306);
        Doc.says("34", "NONE: no such one,");
        int[] terms = {-1, 7, LEAST, MOST};
        for (int term : terms) {
            Check.due("byTerm " + term, x.byTerm(term, 1, 3), -1);
        }
        Doc.says("34", "out of bounds (as in term();");
        BillTender y = Check.told("yields 5 to 9;");
        int[][] wrong = {{0, 0}, {0, 2001}, {1, 0}, {1, 101}, {2, -1}, {2, 101}, {3, -1}, {3, 10}, {4, 4}, {4, 1000}, {5, 0}, {5, 361}, {6, -1}, {6, 2},
            {0, LEAST}, {0, MOST}};
        for (int[] w : wrong) {
            Check.due("byTerm " + w[0] + " " + w[1], y.byTerm(w[0], w[1], 3), -1);
        }
        int[][] edges = {{0, 1}, {0, 2000}, {1, 1}, {1, 100}, {2, 0}, {2, 100}, {3, 0}, {3, 9}, {4, 5}, {4, 999}, {5, 1}, {5, 360}, {6, 0}, {6, 1}};
        for (int[] e : edges) {
            Check.due("byTerm " + e[0] + " " + e[1], y.byTerm(e[0], e[1], 3), 0);
        }
        Doc.says("34", "it may be so),");
        int[] first = {100, 50, 20, 0, 999, 360, 0};
        for (int term = 0; term < 7; term++) {
            Check.due("byTerm " + term + " as it is", x.byTerm(term, first[term], 0), 310);
        }
        Doc.says("34", "no such what.");
        for (int what : NO_WHATS) {
            Check.due("byTerm, what " + what, x.byTerm(0, 60, what), -1);
        }
    }

    private static void limitFor() {
        Doc.says("35", "The least LIMIT by which a HOUSE were SOLD so many LOTS (1 on) or more;");
        BillTender x = Check.told("offer 200;limit 1;share 0;holds 0 3;bid 0 5 lots 20;bid 1 6 lots 20;");
        Check.due("1 of HOUSE 0", x.limitFor(0, 1), 2);
        Check.due("2 of HOUSE 0", x.limitFor(0, 2), 3);
        Check.due("9 of HOUSE 0", x.limitFor(0, 9), 6);
        Check.due("20 of HOUSE 0", x.limitFor(0, 20), 12);
        Check.due("by LIMIT 1", x.limitFor(1, 2), 1);
        // More LIMIT lets others in ahead: HOUSE 1 is SOLD most by LIMIT 50; HOUSE 0 all by 100.
        BillTender y = Check.told("offer 10;limit 100;share 0;bid 0 5 lots 10;bid 1 6 lots 10;");
        Check.due("by LIMIT 50", y.limitFor(1, 5), 50);
        Check.due("by LIMIT 100", y.limitFor(0, 10), 100);
        Check.due("PLAIN ones, too", Check.told("offer 10;share 50;plain 0 lots 3;bid 0 5 lots 4;").limitFor(0, 5), 50);
        Doc.says("35", "-2: by none.");
        Check.due("more than are bid", x.limitFor(0, 21), -2);
        Check.due("others are ahead", y.limitFor(1, 6), -2);
        Check.due("no BIDS", x.limitFor(7, 1), -2);
        Check.due("most", x.limitFor(0, MOST), -2);
        Doc.says("35", "NONE: no such ones.");
        for (int h : NO_HOUSES) {
            Check.due("HOUSE " + h, x.limitFor(h, 1), -1);
        }
        int[] lots = {0, -1, LEAST};
        for (int n : lots) {
            Check.due("LOTS " + n, x.limitFor(0, n), -1);
        }
    }

    private static void shareFor() {
        Doc.says("36", "The least SHARE by which PLAIN BIDS were SOLD so many LOTS (1 on) or more together;");
        BillTender x = Check.told("offer 50;limit 100;share 7;plain 0 lots 20;plain 1 lots 5;bid 2 1 lots 50;");
        int[][] want = {{1, 2}, {2, 4}, {3, 6}, {10, 20}, {25, 50}};
        for (int[] w : want) {
            Check.due("shareFor " + w[0], x.shareFor(w[0]), w[1]);
        }
        Check.due("by SHARE 100", Check.told("offer 1;limit 100;share 0;plain 0 lots 20;").shareFor(1), 100);
        Check.due("by SHARE 1", Check.told("offer 100;limit 100;share 0;plain 0 lots 20;").shareFor(1), 1);
        Doc.says("36", "-2: by none.");
        Check.due("more than are bid", x.shareFor(26), -2);
        Check.due("more than are ADMITTED", Check.told("offer 50;limit 10;plain 0 lots 20;").shareFor(6), -2);
        Check.due("no BIDS", new BillTender().shareFor(1), -2);
        Check.due("most", x.shareFor(MOST), -2);
        Doc.says("36", "NONE: below 1.");
        int[] lots = {0, -1, LEAST};
        for (int n : lots) {
            Check.due("shareFor " + n, x.shareFor(n), -1);
        }
    }

    private static void lotsFor() {
        Doc.says("37", "The least LOTS of a BID (1 .. 1,000) by which it were SOLD so many (1 on) or more;");
        BillTender x = Check.told("offer 10;limit 100;share 50;bid 0 5 lots 4;bid 1 5 lots 20;plain 2 lots 1;plain 3 lots 9;bid 4 4 lots 1;");
        // POOL 5. n of n + 9: by 1 it is 5 by 10, rest 5, as the other's; by 4 it is 20 by 13, rest 7, against 45 by 13, rest 6.
        Check.due("1 of a PLAIN one", x.lotsFor(2, 1), 1);
        Check.due("2 of a PLAIN one", x.lotsFor(2, 2), 4);
        // 4 are left at 5, 10 (its ROOM) are the other's: by 2 it is 8 by 12, rest 8, against 40 by 12, rest 4.
        Check.due("1 at STOP", x.lotsFor(0, 1), 2);
        Check.due("5 below STOP", x.lotsFor(4, 5), 5);
        BillTender y = Check.told("offer 2000;limit 100;share 0;bid 0 5 lots 4;");
        Check.due("1 of 1", y.lotsFor(0, 1), 1);
        Check.due("1,000 of 1,000", y.lotsFor(0, 1000), 1000);
        // One LOT for two, whom ROOM keeps at 1 each: it goes to the least number.
        BillTender z = Check.told("offer 1;limit 100;share 0;bid 0 5 lots 1;bid 1 5 lots 1;");
        Check.due("1 of the first", z.lotsFor(0, 1), 1);
        Doc.says("37", "-2: by none.");
        Check.due("1 of the second, which ROOM keeps at 1", z.lotsFor(1, 1), -2);
        // ROOM is 10: no more than 4 of 20 come to 10 of them.
        Check.due("3 at STOP", x.lotsFor(0, 3), -2);
        Check.due("more than REST", x.lotsFor(4, 6), -2);
        Check.due("1,001", y.lotsFor(0, 1001), -2);
        Check.due("most", y.lotsFor(0, MOST), -2);
        Check.due("out of bounds", Check.told("yields 6 to 9;bid 0 5 lots 4;").lotsFor(0, 1), -2);
        Doc.says("37", "NONE: no such ones.");
        int[] bids = {-1, 5, LEAST, MOST};
        for (int i : bids) {
            Check.due("BID " + i, x.lotsFor(i, 1), -1);
        }
        int[] lots = {0, -1, LEAST};
        for (int n : lots) {
            Check.due("LOTS " + n, x.lotsFor(0, n), -1);
        }
    }

    private static void bestOffer() {
        Doc.says("38", "The OFFER (1 .. 2,000) by which all PAY most,");
        // 20 LOTS at 0 pay 20,000,000; a 21st at 999 would cost all of them a tenth by ONE, nothing by OWN.
        BillTender x = Check.told("limit 100;share 0;days 360;bid 0 0 lots 20;bid 1 999 lots 1;");
        Check.due("by ONE", x.bestOffer(), 20);
        x.term(6, 1);
        Check.due("by OWN", x.bestOffer(), 21);
        Check.due("by OFFER 1", Check.told("limit 100;share 0;bid 0 0 lots 1;").bestOffer(), 1);
        // ROOM is a hundredth of OFFER: 20 LOTS by 2,000.
        Check.due("by OFFER 2,000", Check.told("limit 1;share 0;bid 0 0 lots 20;").bestOffer(), 2000);
        Check.due("2,001 is none", Check.told("limit 100;share 0;bid 0 3 lots 1000;bid 1 3 lots 1000;bid 2 3 lots 1;").bestOffer(), 2000);
        Doc.says("38", "of several the least;");
        BillTender y = Check.told("limit 100;share 0;days 360;bid 0 0 lots 4;bid 1 999 lots 1;");
        Check.due("from 5 on alike", y.bestOffer(), 5);
        Check.due("none PAYS, all alike", Check.told("holds 0 9999;bid 0 0 lots 20;").bestOffer(), 1);
        // 9 at 0 pay as much as 10 by a PRICE of 900,000 would; none is so low, so 10 pay more than 9 do.
        Check.due("ten at 999", Check.told("limit 100;share 0;days 360;bid 0 0 lots 9;bid 1 999 lots 1;").bestOffer(), 10);
        Doc.says("38", "-2: there are no BIDS.");
        Check.due("of none", new BillTender().bestOffer(), -2);
        BillTender z = Check.told("bid 0 5 lots 1;");
        z.settle();
        Check.due("of none any more", z.bestOffer(), -2);
    }

    private static void paidBy() {
        Doc.says("39", "What all would PAY by METHOD 0, 1.");
        BillTender x = six();
        Check.row("paidBy", x::paidBy, 96_900_000L, 96_938_000L);
        x.term(6, 1);
        Check.row("paidBy", x::paidBy, 96_900_000L, 96_938_000L);
        BillTender none = new BillTender();
        Check.row("paidBy of none", none::paidBy, 0, 0);
        Doc.says("39", "NONE: another one.");
        int[] methods = {-1, 2, LEAST, MOST};
        for (int m : methods) {
            Check.due("paidBy " + m, x.paidBy(m), -1);
        }
    }

    private static void soldAt() {
        Doc.says("40", "SOLD of a BID, were its YIELD another one (0 .. 999;");
        BillTender x = six();
        // 50 at 310 with 40 and 30 share 50: 50 times 50 by 120 is 20, rest 100; 40: 16, rest 80; 30: 12, rest 60.
        int[][] want = {{0, 50}, {309, 50}, {310, 21}, {311, 0}, {320, 0}, {999, 0}};
        for (int[] w : want) {
            Check.due("soldAt " + w[0], x.soldAt(5, w[0]), w[1]);
        }
        x.term(4, 320);
        Check.due("above TO", x.soldAt(0, 321), 0);
        Check.due("at TO", x.soldAt(0, 320), 4);
        BillTender y = Check.told("yields 5 to 9;bid 0 5 lots 1;");
        Check.due("below FROM", y.soldAt(0, 4), 0);
        Check.due("at TO", y.soldAt(0, 9), 1);
        Doc.says("40", "a PLAIN one not).");
        Check.due("soldAt of a PLAIN one", x.soldAt(2, 300), -1);
        Check.due("soldAt of a PLAIN one", x.soldAt(4, 0), -1);
        Doc.says("40", "NONE: no such ones.");
        for (int r : NO_YIELDS) {
            Check.due("soldAt " + r, x.soldAt(0, r), -1);
        }
        int[] bids = {-1, 6, LEAST, MOST};
        for (int i : bids) {
            Check.due("soldAt of " + i, x.soldAt(i, 300), -1);
        }
    }

    private static void yieldFor() {
        Doc.says("41", "The greatest YIELD of a BID (not PLAIN) by which it were SOLD so many LOTS (1 on) or more;");
        BillTender x = six();
        int[][] want = {{1, 310}, {21, 310}, {22, 309}, {50, 309}};
        for (int[] w : want) {
            Check.due("yieldFor " + w[0], x.yieldFor(5, w[0]), w[1]);
        }
        Check.due("YIELD 999", Check.told("limit 100;share 0;bid 0 5 lots 4;").yieldFor(0, 4), 999);
        Check.due("up to TO", Check.told("limit 100;share 0;yields 0 to 77;bid 0 5 lots 4;").yieldFor(0, 4), 77);
        Check.due("YIELD 0", Check.told("offer 4;limit 100;share 0;bid 0 5 lots 4;bid 1 1 lots 4;").yieldFor(0, 4), 0);
        Check.due("a PLAIN one", x.yieldFor(2, 1), -1);
        Doc.says("41", "-2: by none.");
        Check.due("more than are bid", x.yieldFor(5, 51), -2);
        Check.due("most", x.yieldFor(5, MOST), -2);
        Check.due("another is ahead at YIELD 0", Check.told("offer 4;limit 100;share 0;bid 1 0 lots 1;bid 0 5 lots 4;").yieldFor(1, 4), -2);
        Check.due("no ROOM", Check.told("holds 0 99;bid 0 5 lots 4;").yieldFor(0, 1), -2);
        Doc.says("41", "NONE: no such ones.");
        int[] lots = {0, -1, LEAST};
        for (int n : lots) {
            Check.due("LOTS " + n, x.yieldFor(5, n), -1);
        }
        int[] bids = {-1, 6, LEAST, MOST};
        for (int i : bids) {
            Check.due("BID " + i, x.yieldFor(i, 1), -1);
        }
    }

    private static void soldAllAt() {
        Doc.says("42", "SOLD of a HOUSE, were all its BIDS with YIELDS of one YIELD (0 .. 999).");
        BillTender x = Check.told("offer 20;limit 100;share 10;bid 0 5 lots 4;bid 1 6 lots 10;bid 0 7 lots 9;plain 0 lots 1;bid 2 9 lots 10;");
        // POOL 2, 1 of it SOLD; REST 19. At 6 23 share 19: 3 (rest 7), 8 (6), 7 (10), one more for 9. At 9 23 share 9: 1 (13), 3 (12), 3 (21).
        int[][] want = {{0, 14}, {5, 14}, {6, 12}, {7, 10}, {8, 10}, {9, 6}, {10, 1}, {999, 1}};
        for (int[] w : want) {
            Check.due("soldAllAt " + w[0], x.soldAllAt(0, w[0]), w[1]);
        }
        Check.due("no BIDS", x.soldAllAt(7, 0), 0);
        Check.due("PLAIN ones alone", Check.told("plain 0 lots 5;").soldAllAt(0, 0), 5);
        Doc.says("42", "NONE: no such ones.");
        for (int h : NO_HOUSES) {
            Check.due("HOUSE " + h, x.soldAllAt(h, 0), -1);
        }
        for (int r : NO_YIELDS) {
            Check.due("YIELD " + r, x.soldAllAt(0, r), -1);
        }
    }

    private static void stopWithout() {
        Doc.says("43", "STOP, were a BID withdrawn.");
        BillTender x = six();
        Check.row("stopWithout", x::stopWithout, 320, 320, 310, 320, 310, 310);
        Check.due("the only one", Check.told("bid 0 5 lots 1;").stopWithout(0), -2);
        // Without 5 LOTS of its HOUSE another one of it is ADMITTED; without a PLAIN one REST is more.
        Check.due("ROOM comes", Check.told("offer 10;limit 50;share 0;bid 0 3 lots 5;bid 0 8 lots 1;").stopWithout(0), 8);
        Check.due("REST comes", Check.told("offer 9;limit 100;share 100;plain 0 lots 9;bid 1 8 lots 1;").stopWithout(0), 8);
        Doc.says("43", "NONE: no such one.");
        int[] bids = {-1, 6, LEAST, MOST};
        for (int i : bids) {
            Check.due("stopWithout " + i, x.stopWithout(i), -1);
        }
    }

    private static void pivot() {
        Doc.says("44", "The HOUSE without whose BIDS STOP were greatest,");
        // Without 3: 6, 6, 20: 7. Without 4: 11 by 6. Without the others: 6.
        BillTender x = Check.told("offer 10;limit 100;share 0;bid 3 5 lots 6;bid 4 6 lots 6;bid 5 7 lots 6;bid 6 9 lots 20;bid 3 6 lots 5;");
        Check.due("HOUSE 3", x.pivot(), 3);
        // Its PLAIN ones go, too: REST is 10 without HOUSE 7, and 6 at 1 aren't enough.
        Check.due("HOUSE 7", Check.told("offer 10;limit 100;share 40;bid 0 1 lots 6;plain 7 lots 4;bid 0 2 lots 1;").pivot(), 7);
        // PLAIN ones of 0 to 6, which are SOLD nothing, take all ROOM of OWNER 0: without any of them the LOTS at 5 are enough,
        // without 7 there is no STOP. So STOP, which is 9, falls without every HOUSE.
        BillTender y = Check.told("offer 10;limit 100;share 0;owner 1 0;owner 2 0;owner 3 0;owner 4 0;owner 5 0;owner 6 0;plain 0 lots 4;plain 1 lots 1;"
            + "plain 2 lots 1;plain 3 lots 1;plain 4 lots 1;plain 5 lots 1;plain 6 lots 1;bid 0 5 lots 10;bid 1 5 lots 10;bid 7 5 lots 9;bid 7 9 lots 1;");
        Check.due("STOP", y.result(0), 9);
        Check.due("the first of 0 to 6", y.pivot(), 0);
        Doc.says("44", "of several the first");
        Check.due("0, 1, 3", six().pivot(), 0);
        Check.due("1 and 2", Check.told("offer 10;limit 100;share 0;bid 0 9 lots 9;bid 1 5 lots 6;bid 2 5 lots 6;").pivot(), 1);
        Check.due("all alike", new BillTender().pivot(), 0);
        Doc.says("44", "(-2 of STOP is less than all else).");
        Check.due("-2 without HOUSE 0, 0 without the others", Check.told("bid 0 0 lots 1;").pivot(), 1);
        Check.due("-2 without HOUSE 0, 5 without the others", Check.told("bid 0 5 lots 1;").pivot(), 1);
    }
}
