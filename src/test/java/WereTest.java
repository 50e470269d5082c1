/** Promises 32 to 44: what would be, and that nothing happens by asking. */
public final class WereTest {
    private static final int LEAST = Integer.MIN_VALUE;
    private static final int MOST = Integer.MAX_VALUE;

    public static void main(String[] args) {
        byOffer();
        offerFor();
        byTerm();
        limitFor();
        shareFor();
        lotsFor();
        bestOffer();
        paidBy();
        soldAt();
        yieldFor();
        soldAllAt();
        stopWithout();
        pivot();
        nothingHappens();
        Check.finish();
    }

    private static BillTender six() {
        return Check.told(AskedTest.SIX);
    }

    private static void byOffer() {
        BillTender x = six();
        // 60 LOTS: ROOM 30, POOL 12; REST 48; 300 gives 15 (ROOM of 0 is 30 less 15 PLAIN), 310 gives 30 + 30 for 33.
        int[] want = {310, 306, 4, 60, 12, 12, 48, 105, 216, 2, 1, 0};
        for (int what = 0; what < 12; what++) {
            Check.due("32: byOffer(60, " + what + ")", x.byOffer(60, what), want[what]);
            Check.due("32: as it is " + what, x.byOffer(100, what), x.result(what));
        }
        Check.due("32: least", x.byOffer(1, 6), 1);
        Check.due("32: most", x.byOffer(2000, 11), 2000 - 175);
        int[][] wrong = {{0, 0}, {2001, 0}, {-1, 0}, {60, 12}, {60, -1}, {LEAST, 0}, {MOST, 0}, {60, MOST}};
        for (int[] w : wrong) {
            Check.due("32: byOffer of " + w[0] + " " + w[1], x.byOffer(w[0], w[1]), -1);
        }
    }

    private static void offerFor() {
        BillTender x = Check.told("offer 5;limit 100;share 0;bid 0 3 lots 4;bid 1 5 lots 6;bid 2 9 lots 1;");
        int[][] want = {{0, 1}, {3, 1}, {4, 5}, {5, 5}, {6, 11}, {9, 11}, {10, -2}, {999, -2}, {1000, -1}, {-1, -1}, {LEAST, -1}};
        for (int[] w : want) {
            Check.due("33: offerFor " + w[0], x.offerFor(w[0]), w[1]);
        }
        // All are less than 100: STOP is then the greatest that is ADMITTED.
        BillTender y = Check.told("limit 1;share 0;bid 0 3 lots 4;");
        Check.due("33: ROOM comes with 100", y.offerFor(3), 100);
        BillTender z = Check.told("limit 1;share 0;holds 0 19;bid 0 999 lots 4;");
        Check.due("33: the greatest OFFER", z.offerFor(999), 2000);
        z.hold(0, 20);
        Check.due("33: by none", z.offerFor(0), -2);
        Check.due("33: no BIDS", new BillTender().offerFor(0), -2);
    }

    private static void byTerm() {
        BillTender x = six();
        Check.due("34: OFFER", x.byTerm(0, 60, 8), 216);
        // LIMIT 20: 0 has 15 PLAIN and 5, the others 20 each.
        Check.due("34: LIMIT", x.byTerm(1, 20, 7), 5 + 20 + 20 + 20);
        Check.due("34: SHARE", x.byTerm(2, 0, 4), 0);
        Check.due("34: SHARE", x.byTerm(2, 100, 4), 25);
        Check.due("34: FROM", x.byTerm(3, 301, 7), 120);
        Check.due("34: TO", x.byTerm(4, 300, 0), 300);
        Check.due("34: AVERAGE is FROM", x.byTerm(3, 999, 1), 999);
        Check.due("34: DAYS", x.byTerm(5, 1, 0), 310);
        Check.due("34: METHOD", x.byTerm(6, 1, 1), 306);
        Check.due("34: it may be so", x.byTerm(6, 0, 1), 306);
        Check.due("34: it may be so", x.byTerm(4, 999, 0), 310);
        int[][] wrong = {{-1, 1, 0}, {7, 1, 0}, {0, 0, 0}, {0, 2001, 0}, {1, 0, 0}, {1, 101, 0}, {2, -1, 0}, {2, 101, 0}, {3, -1, 0},
            {3, 1000, 0}, {4, -1, 0}, {4, 1000, 0}, {5, 0, 0}, {5, 361, 0}, {6, -1, 0}, {6, 2, 0}, {0, 60, 12}, {0, 60, -1},
            {LEAST, 1, 0}, {MOST, 1, 0}};
        for (int[] w : wrong) {
            Check.due("34: byTerm of " + w[0] + " " + w[1] + " " + w[2], x.byTerm(w[0], w[1], w[2]), -1);
        }
        x.term(3, 300);
        x.term(4, 315);
        Check.due("34: FROM above TO", x.byTerm(3, 316, 0), -1);
        Check.due("34: FROM as TO", x.byTerm(3, 315, 0), -2);
        Check.due("34: TO below FROM", x.byTerm(4, 299, 0), -1);
        Check.due("34: TO as FROM", x.byTerm(4, 300, 0), 300);
    }

    private static void limitFor() {
        BillTender x = Check.told("offer 200;limit 1;share 0;holds 0 3;bid 0 5 lots 20;bid 1 6 lots 20;");
        Check.due("35: one LOT", x.limitFor(0, 1), 2);
        Check.due("35: nine", x.limitFor(0, 9), 6);
        Check.due("35: all", x.limitFor(0, 20), 12);
        Check.due("35: more", x.limitFor(0, 21), -2);
        Check.due("35: most", x.limitFor(0, MOST), -2);
        Check.due("35: the least LIMIT", x.limitFor(1, 2), 1);
        Check.due("35: no BIDS", x.limitFor(2, 1), -2);
        Check.due("35: none", x.limitFor(0, 0), -1);
        Check.due("35: below", x.limitFor(0, -1), -1);
        Check.due("35: no such", x.limitFor(8, 1), -1);
        Check.due("35: no such", x.limitFor(-1, 1), -1);
        // More LIMIT lets others in ahead: 1 is SOLD most while 0 has little ROOM.
        BillTender y = Check.told("offer 10;limit 100;share 0;bid 0 5 lots 10;bid 1 6 lots 10;");
        Check.due("35: not by 100 alone", y.limitFor(1, 5), 50);
        Check.due("35: by none", y.limitFor(1, 6), -2);
        Check.due("35: by 100", y.limitFor(0, 10), 100);
    }

    private static void shareFor() {
        BillTender x = Check.told("offer 50;limit 100;share 7;plain 0 lots 20;plain 1 lots 5;");
        Check.due("36: one", x.shareFor(1), 2);
        Check.due("36: ten", x.shareFor(10), 20);
        Check.due("36: all", x.shareFor(25), 50);
        Check.due("36: more", x.shareFor(26), -2);
        Check.due("36: most", x.shareFor(MOST), -2);
        Check.due("36: none", x.shareFor(0), -1);
        Check.due("36: below", x.shareFor(LEAST), -1);
        BillTender y = Check.told("offer 1;limit 100;share 0;plain 0 lots 20;");
        Check.due("36: the whole", y.shareFor(1), 100);
        Check.due("36: no BIDS", new BillTender().shareFor(1), -2);
    }

    private static void lotsFor() {
        BillTender x = Check.told("offer 10;limit 100;share 50;bid 0 5 lots 4;bid 1 5 lots 20;plain 2 lots 1;plain 3 lots 9;bid 4 4 lots 1;");
        // POOL 5: n of n + 9 brings 1 from 1 on: 5 by 10 is 0.5 and a rest as great as the other's.
        Check.due("37: PLAIN, one", x.lotsFor(2, 1), 1);
        // 5 * n by n + 9: 2 by 5 (25 by 14 is 1, its rest 11 beats 45 by 14, 3 with 3).
        Check.due("37: PLAIN, two", x.lotsFor(2, 2), 4);
        // REST 5, less 1 at 4: 4 of n + 10 (its ROOM) at 5; 8 by 12 is 0, its rest 8 beats 40 by 12, 3 with 4.
        Check.due("37: with a YIELD, one", x.lotsFor(0, 1), 2);
        // ROOM is 10: no more than 4 of 10 + 10, which brings 2.
        Check.due("37: by none", x.lotsFor(0, 3), -2);
        Check.due("37: in full", x.lotsFor(4, 5), 5);
        Check.due("37: beyond REST", x.lotsFor(4, 6), -2);
        Check.due("37: beyond LOTS", x.lotsFor(4, 1001), -2);
        Check.due("37: most", x.lotsFor(4, MOST), -2);
        Check.due("37: none", x.lotsFor(0, 0), -1);
        Check.due("37: no such", x.lotsFor(5, 1), -1);
        Check.due("37: no such", x.lotsFor(-1, 1), -1);
        BillTender y = Check.told("offer 2000;limit 100;share 0;bid 0 5 lots 4;");
        Check.due("37: the most LOTS", y.lotsFor(0, 1000), 1000);
    }

    private static void bestOffer() {
        Check.due("38: no BIDS", new BillTender().bestOffer(), -2);
        // 4 LOTS at 0 pay 4,000,000; 5 at 999 on 360 days by ONE 4,500,500; from 5 on all is the same.
        BillTender x = Check.told("limit 100;share 0;days 360;bid 0 0 lots 4;bid 1 999 lots 1;");
        Check.due("38: all that is bid", x.bestOffer(), 5);
        // 20 LOTS at 0 pay 20,000,000; the 21st would cost all of them a tenth.
        BillTender y = Check.told("limit 100;share 0;days 360;bid 0 0 lots 20;bid 1 999 lots 1;");
        Check.due("38: the dear one stays out", y.bestOffer(), 20);
        y.term(6, 1);
        Check.due("38: by OWN it doesn't", y.bestOffer(), 21);
        BillTender z = Check.told("limit 100;holds 0 9999;bid 0 0 lots 20;");
        Check.due("38: none PAYS", z.bestOffer(), 1);
        BillTender w = Check.told("limit 1;share 0;bid 0 0 lots 20;");
        Check.due("38: the greatest", w.bestOffer(), 2000);
    }

    private static void paidBy() {
        BillTender x = six();
        Check.due("39: ONE", x.paidBy(0), 96_900_000L);
        Check.due("39: OWN", x.paidBy(1), 96_938_000L);
        Check.due("39: others", x.paidBy(2), -1);
        Check.due("39: others", x.paidBy(-1), -1);
        x.term(6, 1);
        Check.due("39: ONE, were it so", x.paidBy(0), 96_900_000L);
        Check.due("39: no BIDS", new BillTender().paidBy(1), 0);
    }

    private static void soldAt() {
        BillTender x = six();
        Check.due("40: as it is", x.soldAt(5, 320), 0);
        // 50 at 310 with 40 and 30: 50 times 50 by 120 is 20, rest 100; 40: 16, rest 80; 30: 12, rest 60.
        Check.due("40: at STOP", x.soldAt(5, 310), 21);
        Check.due("40: below STOP", x.soldAt(5, 309), 50);
        Check.due("40: least", x.soldAt(5, 0), 50);
        Check.due("40: greatest", x.soldAt(0, 999), 0);
        Check.due("40: PLAIN", x.soldAt(2, 300), -1);
        int[][] wrong = {{0, -1}, {0, 1000}, {6, 0}, {-1, 0}, {0, LEAST}, {MOST, 0}, {2, -1}};
        for (int[] w : wrong) {
            Check.due("40: soldAt of " + w[0] + " " + w[1], x.soldAt(w[0], w[1]), -1);
        }
        x.term(4, 320);
        Check.due("40: out of bounds", x.soldAt(0, 321), 0);
    }

    private static void yieldFor() {
        BillTender x = six();
        Check.due("41: one", x.yieldFor(5, 1), 310);
        Check.due("41: at STOP", x.yieldFor(5, 21), 310);
        Check.due("41: one more", x.yieldFor(5, 22), 309);
        Check.due("41: all", x.yieldFor(5, 50), 300 + 9);
        Check.due("41: more", x.yieldFor(5, 51), -2);
        Check.due("41: most", x.yieldFor(5, MOST), -2);
        Check.due("41: none", x.yieldFor(5, 0), -1);
        Check.due("41: PLAIN", x.yieldFor(2, 1), -1);
        Check.due("41: no such", x.yieldFor(6, 1), -1);
        Check.due("41: no such", x.yieldFor(-1, 1), -1);
        BillTender y = Check.told("offer 100;limit 100;share 0;bid 0 5 lots 4;");
        Check.due("41: up to the greatest", y.yieldFor(0, 4), 999);
        y.term(4, 77);
        Check.due("41: up to TO", y.yieldFor(0, 4), 77);
        BillTender z = Check.told("offer 4;limit 100;share 0;bid 0 5 lots 4;bid 1 0 lots 1;");
        Check.due("41: what is left", z.yieldFor(0, 3), 999);
        Check.due("41: but not all", z.yieldFor(0, 4), -2);
        BillTender w = Check.told("offer 4;limit 100;share 0;bid 0 5 lots 4;bid 1 1 lots 4;");
        Check.due("41: with the other at 1", w.yieldFor(0, 2), 1);
        Check.due("41: the least YIELD", w.yieldFor(0, 3), 0);
    }

    private static void soldAllAt() {
        BillTender x = Check.told("offer 20;limit 100;share 10;bid 0 5 lots 4;bid 1 6 lots 10;bid 0 7 lots 9;plain 0 lots 1;bid 2 9 lots 10;");
        // POOL 2: 1 PLAIN; REST 19: 5 and 6 take 14, 5 are left for 0 at 7.
        Check.due("42: as it is", x.house(0, 4), 10);
        Check.due("42: below all", x.soldAllAt(0, 0), 14);
        // 23 at 6 share 19: 4 * 19 by 23 is 3 (7), 10: 8 (6), 9: 7 (10): one more for 9.
        Check.due("42: at 6", x.soldAllAt(0, 6), 1 + 3 + 8);
        Check.due("42: at 9", x.soldAllAt(0, 9), 1 + 1 + 4);
        Check.due("42: above", x.soldAllAt(0, 10), 1);
        Check.due("42: no BIDS", x.soldAllAt(7, 0), 0);
        int[][] wrong = {{-1, 0}, {8, 0}, {0, -1}, {0, 1000}, {LEAST, 0}, {0, MOST}};
        for (int[] w : wrong) {
            Check.due("42: soldAllAt of " + w[0] + " " + w[1], x.soldAllAt(w[0], w[1]), -1);
        }
    }

    private static void stopWithout() {
        BillTender x = six();
        int[] want = {320, 320, 310, 320, 310, 310};
        for (int i = 0; i < 6; i++) {
            Check.due("43: stopWithout " + i, x.stopWithout(i), want[i]);
        }
        Check.due("43: no such", x.stopWithout(6), -1);
        Check.due("43: no such", x.stopWithout(-1), -1);
        Check.due("43: the only one", Check.told("bid 0 5 lots 1;").stopWithout(0), -2);
    }

    private static void pivot() {
        Check.due("44: no BIDS", new BillTender().pivot(), 0);
        Check.due("44: of several the first", six().pivot(), 0);
        BillTender x = Check.told("offer 10;limit 100;share 0;bid 3 5 lots 6;bid 4 6 lots 6;bid 5 7 lots 6;bid 6 9 lots 20;bid 3 6 lots 5;");
        // Without 3: 6, 6, 20: 7. Without 4: 11: 6. Without others: 6.
        Check.due("44: who moves it", x.pivot(), 3);
        // Without 0 there is no STOP, without the others it is 5.
        Check.due("44: -2 is least", Check.told("bid 0 5 lots 1;").pivot(), 1);
        // All of a HOUSE's BIDS go, PLAIN ones, too: REST is 10 then and 6 aren't enough at 1.
        BillTender y = Check.told("offer 10;limit 100;share 40;bid 0 1 lots 6;plain 7 lots 4;bid 1 2 lots 1;");
        Check.due("44: PLAIN ones, too", y.pivot(), 0);
        BillTender z = Check.told("offer 10;limit 100;share 40;bid 0 1 lots 6;plain 7 lots 4;bid 0 2 lots 1;");
        Check.due("44: without 7 it is 2", z.pivot(), 7);
    }

    private static void nothingHappens() {
        BillTender x = six();
        x.hold(3, 5);
        x.own(1, 2);
        x.bid(7, 33, 3);
        x.settle();
        Check.feed(x, "xyz");
        x.bid(7, 33, 3);
        x.bid(6, -1, 3);
        String was = Check.spelled(x);
        x.byOffer(7, 0);
        x.offerFor(999);
        x.byTerm(3, 9, 0);
        x.limitFor(7, 99);
        x.shareFor(99);
        x.lotsFor(0, 999);
        x.bestOffer();
        x.paidBy(1);
        x.soldAt(0, 5);
        x.yieldFor(0, 99);
        x.soldAllAt(7, 5);
        x.stopWithout(0);
        x.pivot();
        Check.due("44: nothing happens", Check.spelled(x), was);
        Check.due("44: no ACT", x.count(3), 6);
        Check.due("44: the RECORD stays", x.count(2), 1);
        Check.due("44: the tape stays", x.count(4), 3);
    }
}
