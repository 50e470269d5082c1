/** Part III of the document: ACTS, SETTLED, WERE, and where NONE and -2 could both be told; ahead of it, how long an object is used. */
final class UndoneSays {
    private UndoneSays() {
    }

    static void run() {
        calls();
        acts();
        settled();
        eightLines();
        were();
        noneAheadOfNothing();
    }

    private static void calls() {
        Doc.says("0", "An object is used for at most 512 calls after it has been made; what later calls answer is free.");
        BillTender x = new BillTender();
        for (int n = 1; n < 512; n += 2) {
            Check.due("bid, call " + n, x.bid(n % 8, n, 1), 0);
            Check.due("settle, call " + (n + 1), n > 510 || x.settle() >= 0, true);
        }
        Check.due("the last call", x.count(0), 1);
        // Later calls may answer what they like, but none may throw.
        for (int n = 0; n < 600; n++) {
            x.bid(n % 8, n % 1000, 1);
            x.undo();
        }
    }

    private static void acts() {
        Doc.says("III", "ACTS, of which the latest 12 can be undone");
        for (int acts = 11; acts <= 26; acts++) {
            BillTender x = new BillTender();
            for (int n = 1; n <= acts; n++) {
                x.term(5, n);
            }
            int can = Math.min(12, acts);
            Check.due("can be undone (49)", x.count(3), can);
            for (int n = 1; n <= can; n++) {
                Check.due("undo " + n + " of " + acts + " (15)", x.undo(), can - n);
                Check.due("DAYS behind it (16)", x.asTerm(5), acts == n ? 90 : acts - n);
            }
            Check.due("no more (15)", x.undo(), -1);
        }
        Doc.says("III", "(text() forgets them).");
        BillTender x = new BillTender();
        x.hold(0, 5);
        x.hold(1, 6);
        Check.due("text (4)", Check.tell(x, "holds 2 7;"), 0);
        Check.due("can be undone (49)", x.count(3), 0);
        Check.due("undo (15)", x.undo(), -1);
        Check.due("what was told stays (19)", x.house(2, 0), 7);
        x.hold(2, 8);
        Check.due("undo of what came behind it (15)", x.undo(), 0);
        Check.due("as told (19)", x.house(2, 0), 7);
    }

    private static void settled() {
        Doc.says("III", "SETTLED: each HOUSE HOLDS what it was SOLD more");
        // SOLD: 4 and 2 to HOUSE 0, 1 to HOUSE 5, which has OWNER 0, 1 to HOUSE 2; ROOM of 0 is 12 less 5.
        BillTender x = Check.told("offer 12;limit 100;share 25;days 360;own;holds 0 5;owner 5 0;"
            + "bid 0 100 lots 4;plain 0 lots 2;bid 5 110 lots 3;bid 2 120 lots 1;");
        Check.due("settle (14)", x.settle(), 8);
        Check.row("HOLDS (19)", h -> x.house(h, 0), 11, 0, 1, 0, 0, 1, 0, 0);
        Doc.says("III", "(9,999 at most),");
        BillTender full = Check.told("offer 2000;limit 100;holds 0 9999;holds 1 1999;bid 0 5 lots 1;plain 0 lots 1;bid 1 5 lots 2;");
        Check.due("settle (14)", full.settle(), 1);
        Check.row("HOLDS (19)", h -> full.house(h, 0), 9999, 2000, 0);
        Doc.says("III", "all BIDS are gone;");
        Check.due("BIDS (49)", x.count(0), 0);
        Check.due("none of them (17)", x.of(0, 0), -1);
        Check.due("TERMS stay (16)", x.asTerm(0), 12);
        Check.due("OWNERS stay (19)", x.house(5, 5), 0);
        Doc.says("III", "STOP, AVERAGE, LOTS SOLD and PAYS of all are a line of the RECORD");
        // 4 at 100, 1 at 110, 1 at 120: 630 by 6; the two PLAIN LOTS pay the price of 105.
        Check.row("record (45)", what -> x.record(0, what), 120, 105, 8);
        Check.due("recordPaid (47)", x.recordPaid(0), 4 * 990_000L + 989_000L + 988_000L + 2 * 989_500L);
        Check.due("lines (49)", x.count(2), 1);
    }

    private static void eightLines() {
        Doc.says("III", "(the latest 8 are kept).");
        BillTender x = new BillTender();
        for (int n = 1; n <= 17; n++) {
            x.bid(n % 8, n, 1);
            x.settle();
            Check.due("lines behind " + n + " (49)", x.count(2), Math.min(8, n));
            Check.due("the latest of " + n + " (45)", x.record(0, 0), n);
            Check.due("the oldest of " + n + " (45)", x.record(Math.min(8, n) - 1, 0), Math.max(1, n - 7));
            Check.due("none behind it (45)", x.record(Math.min(8, n), 0), -1);
        }
    }

    private static void were() {
        Doc.says("III", "WERE: things are as they are but for what is told; nothing happens.");
        BillTender x = Check.told("limit 50;owner 1 2;holds 3 5;bid 0 300 lots 3;");
        x.settle();
        x.bid(0, 300, 30);
        x.bid(1, -1, 10);
        x.bid(2, 310, 40);
        Check.feed(x, "xyz");
        String was = Check.state(x);
        String of = told(x);
        // ROOM: 47 of HOUSE 0, 50 of 1 and 2 together; all 80 LOTS are SOLD. By an OFFER of 20 it is 7, and 10 that a PLAIN one has.
        Check.due("byOffer (32)", x.byOffer(20, 3), 11);
        Check.due("offerFor (33)", x.offerFor(310), 22);
        Check.due("byTerm (34)", x.byTerm(4, 300, 3), 40);
        Check.due("limitFor (35)", x.limitFor(2, 40), 50);
        Check.due("shareFor (36)", x.shareFor(10), 10);
        Check.due("lotsFor (37)", x.lotsFor(0, 47), 47);
        Check.due("bestOffer (38)", x.bestOffer(), 100);
        Check.due("paidBy (39)", x.paidBy(0), 80 * 992_250L);
        Check.due("soldAt (40)", x.soldAt(0, 999), 30);
        Check.due("yieldFor (41)", x.yieldFor(0, 30), 999);
        Check.due("soldAllAt (42)", x.soldAllAt(2, 0), 40);
        Check.due("stopWithout (43)", x.stopWithout(2), 300);
        Check.due("pivot (44)", x.pivot(), 0);
        Check.due("all stays", Check.state(x), was);
        Check.due("what is SOLD stays", told(x), of);
    }

    private static String told(BillTender x) {
        StringBuilder all = new StringBuilder();
        for (int what = 0; what < 12; what++) {
            all.append(x.result(what)).append(' ');
        }
        return all.append(x.paid()).toString();
    }

    private static void noneAheadOfNothing() {
        Doc.says("III", "Where NONE and -2 could both be told, it is NONE.");
        BillTender x = new BillTender();
        Check.due("of no BID its YIELD (17)", x.of(0, 1), -1);
        Check.due("TAIL, no such what (21)", x.result(12), -1);
        Check.due("mean of no HOUSE (23)", x.mean(8), -1);
        Check.due("byOffer of no OFFER its STOP (32)", x.byOffer(0, 0), -1);
        Check.due("byOffer, no such what (32)", x.byOffer(1, -2), -1);
        Check.due("offerFor no YIELD (33)", x.offerFor(1000), -1);
        Check.due("byTerm of no TERM its STOP (34)", x.byTerm(7, 1, 0), -1);
        Check.due("limitFor no HOUSE (35)", x.limitFor(8, 1), -1);
        Check.due("limitFor no LOTS (35)", x.limitFor(0, 0), -1);
        Check.due("shareFor no LOTS (36)", x.shareFor(0), -1);
        Check.due("lotsFor no BID (37)", x.lotsFor(0, 2000), -1);
        Check.due("yieldFor no BID (41)", x.yieldFor(0, 2000), -1);
        Check.due("stopWithout no BID (43)", x.stopWithout(0), -1);
        Check.due("record of no line its STOP (45)", x.record(0, 0), -1);
        Check.due("records of no what (46)", x.records(4), -1);
        Check.due("spell below NONE (48)", x.spell(-2), -1);
        x.bid(0, -1, 5);
        Check.due("lotsFor no LOTS (37)", x.lotsFor(0, 0), -1);
        Check.due("yieldFor a PLAIN one (41)", x.yieldFor(0, 2000), -1);
        Check.due("soldAt of a PLAIN one (40)", x.soldAt(0, 5), -1);
        x.bid(0, 5, 5);
        Check.due("yieldFor no LOTS (41)", x.yieldFor(1, 0), -1);
        x.withdraw(1);
        x.settle();
        Check.due("record, no such what (45)", x.record(0, 3), -1);
    }
}
