import java.util.Arrays;

/** Part II of the document: ROOM, ADMITTED, PART, SOLD, STOP, AVERAGE, PRICE, PAYS (promises 17 to 27; a test names its own in brackets). */
final class SoldSays {
    private SoldSays() {
    }

    static void run() {
        room();
        outOfBounds();
        admitted();
        part();
        pool();
        stop();
        noStop();
        average();
        price();
        pays();
    }

    private static void bids(BillTender x, int what, long... want) {
        Check.row("of what " + what + " (17), BID", i -> x.of(i, what), want);
    }

    private static void room() {
        Doc.says("II", "ROOM of an OWNER (of each HOUSE that has it):");
        BillTender x = Check.told("offer 100;limit 50;holds 0 3;holds 5 4;owner 5 0;owner 6 5;");
        Check.row("ROOM (19)", h -> x.house(h, 1), 43, 50, 50, 50, 50, 43, 50, 50);
        Doc.says("II", "LIMIT of a hundred of OFFER (cut),");
        int[][] cuts = {{99, 35, 34}, {2, 49, 0}, {2, 50, 1}, {1, 99, 0}, {1, 100, 1}, {2000, 100, 2000}, {2000, 1, 20}, {199, 1, 1}};
        for (int[] c : cuts) {
            BillTender y = new BillTender();
            y.term(0, c[0]);
            y.term(1, c[1]);
            Check.due("ROOM of " + c[0] + " by " + c[1] + " (19)", y.house(0, 1), c[2]);
        }
        Doc.says("II", "less what all HOUSES that have it HOLD,");
        BillTender z = Check.told("offer 100;limit 50;holds 0 3;holds 1 4;holds 2 5;owner 1 0;owner 2 0;");
        Check.row("ROOM (19)", h -> z.house(h, 1), 38, 38, 38, 50);
        z.own(0, 3);
        Check.row("ROOM without the OWNER's own (19)", h -> z.house(h, 1), 47, 41, 41, 47);
        Doc.says("II", "0 at least.");
        BillTender w = Check.told("offer 100;limit 50;share 0;bid 0 5 lots 1;");
        int[][] held = {{49, 1}, {50, 0}, {51, 0}, {9999, 0}};
        for (int[] h : held) {
            w.hold(0, h[0]);
            Check.due("ROOM behind " + h[0] + " (19)", w.house(0, 1), h[1]);
            Check.due("ADMITTED behind " + h[0] + " (17)", w.of(0, 3), h[1]);
            Check.due("WHY behind " + h[0] + " (17)", w.of(0, 4), h[1] == 0 ? 2 : 0);
        }
    }

    private static void outOfBounds() {
        Doc.says("II", "ADMITTED of each BID: of one with a YIELD below FROM or above TO nothing (WHY 1).");
        BillTender x = Check.told("limit 100;yields 5 to 7;bid 0 4 lots 1;bid 0 5 lots 2;bid 0 7 lots 3;bid 0 8 lots 4;plain 0 lots 5;");
        bids(x, 3, 0, 2, 3, 0, 5);
        bids(x, 4, 1, 0, 0, 1, 0);
        bids(x, 5, 0, 2, 3, 0, 5);
        x.hold(0, 100);
        bids(x, 4, 1, 2, 2, 1, 2);
        BillTender edges = Check.told("limit 100;bid 0 0 lots 1;bid 0 999 lots 1;");
        bids(edges, 4, 0, 0);
        edges.term(3, 1);
        edges.term(4, 998);
        bids(edges, 4, 1, 1);
        Doc.says("II", "Of the others of all HOUSES of an OWNER together,");
        BillTender y = Check.told("limit 10;owner 1 0;bid 1 5 lots 7;bid 0 5 lots 7;bid 2 5 lots 7;");
        bids(y, 3, 7, 3, 7);
        // One that is out of bounds takes no ROOM from the others.
        BillTender z = Check.told("limit 10;yields 5 to 9;bid 0 4 lots 10;bid 0 5 lots 10;");
        bids(z, 3, 0, 10);
    }

    private static void admitted() {
        Doc.says("II", "PLAIN ones first by their numbers,");
        BillTender x = Check.told("limit 10;share 100;bid 0 0 lots 4;plain 0 lots 6;plain 0 lots 5;plain 0 lots 1;");
        bids(x, 3, 0, 6, 4, 0);
        bids(x, 4, 2, 0, 2, 2);
        x.move(3, 0);
        bids(x, 3, 1, 0, 6, 3);
        Doc.says("II", "then the rest by YIELD rising,");
        BillTender y = Check.told("limit 10;share 0;bid 0 9 lots 4;bid 0 7 lots 5;bid 0 8 lots 3;");
        bids(y, 3, 2, 5, 3);
        Doc.says("II", "of alike ones by numbers,");
        BillTender z = Check.told("limit 10;share 0;bid 0 9 lots 8;bid 0 9 lots 8;bid 0 9 lots 1;");
        bids(z, 3, 8, 2, 0);
        z.move(2, 0);
        bids(z, 3, 1, 8, 1);
        Doc.says("II", "each in full, as far as ROOM is left (WHY 2, if it isn't in full).");
        BillTender w = Check.told("limit 10;share 0;bid 0 5 lots 10;");
        bids(w, 3, 10);
        bids(w, 4, 0);
        w.change(0, 0, 11);
        bids(w, 3, 10);
        bids(w, 4, 2);
        w.change(0, 0, 9);
        w.bid(0, 6, 2);
        w.bid(0, 7, 1);
        bids(w, 3, 9, 1, 0);
        bids(w, 4, 0, 2, 2);
    }

    private static void part() {
        Doc.says("II", "PART A of some BIDS that are ADMITTED with T LOTS in all (A below T):");
        // As much as there is: no PART. One LOT more: 70 by 11 is 6, rest 4; 40 by 11 is 3, rest 7.
        BillTender x = Check.told("offer 10;limit 100;share 0;bid 0 5 lots 6;bid 1 5 lots 4;");
        bids(x, 5, 6, 4);
        Check.due("no PART (21)", x.result(10), 0);
        x.change(0, 0, 7);
        bids(x, 5, 6, 4);
        Check.due("a PART (21)", x.result(10), 1);
        Doc.says("II", "of each its LOTS (ADMITTED) times A, by T, cut;");
        // ROOM is 2: 2, 2, 2 share 5, whatever their LOTS are.
        BillTender y = Check.told("offer 5;limit 40;share 0;bid 0 5 lots 3;bid 1 5 lots 9;bid 2 5 lots 2;");
        bids(y, 3, 2, 2, 2);
        bids(y, 5, 2, 2, 1);
        // 6 and 3 share 6 without a rest; one that is ADMITTED with nothing gets nothing.
        BillTender z = Check.told("offer 6;limit 100;share 0;holds 2 6;owner 2 3;bid 0 5 lots 6;bid 2 5 lots 1;bid 1 5 lots 3;");
        bids(z, 5, 4, 0, 2);
        Doc.says("II", "LOTS that are left go one by one to those with the greatest rest of that division,");
        // 9 of 13: 45 by 13 is 3, rest 6; 27: 2, 1; 36: 2, 10; 9: 0, 9. Two are left.
        BillTender w = Check.told("offer 9;limit 100;share 0;bid 0 5 lots 5;bid 1 5 lots 3;bid 2 5 lots 4;bid 3 5 lots 1;");
        bids(w, 5, 3, 2, 3, 1);
        Doc.says("II", "of alike ones to the least number,");
        BillTender v = Check.told("offer 8;limit 100;share 0;bid 2 5 lots 3;bid 1 5 lots 3;bid 0 5 lots 3;");
        bids(v, 5, 3, 3, 2);
        BillTender u = Check.told("offer 1;limit 100;share 0;bid 0 9 lots 1;bid 1 5 lots 1;bid 2 5 lots 1;");
        bids(u, 5, 0, 1, 0);
        Doc.says("II", "none twice.");
        // 3 by 4 is 0, rest 3, of each: three of them get one.
        BillTender t = Check.told("offer 3;limit 100;share 0;bid 0 5 lots 1;bid 1 5 lots 1;bid 2 5 lots 1;bid 3 5 lots 1;");
        bids(t, 5, 1, 1, 1, 0);
        // 28 of 30 alike ones: 1 * 28 by 30 is 0, rest 28.
        BillTender s = Check.told("offer 28;limit 100;share 0;" + "bid 0 5 lots 1;bid 1 5 lots 1;".repeat(15));
        long[] want = new long[30];
        Arrays.fill(want, 0, 28, 1);
        bids(s, 5, want);
    }

    private static void pool() {
        Doc.says("II", "SOLD: POOL is SHARE of a hundred of OFFER (cut).");
        int[][] cuts = {{10, 33, 3}, {4, 24, 0}, {4, 25, 1}, {2000, 100, 2000}, {2000, 0, 0}, {1, 99, 0}, {1, 100, 1}};
        for (int[] c : cuts) {
            Check.due("POOL of " + c[0] + " by " + c[1] + " (21)", Check.told("offer " + c[0] + ";share " + c[1] + ";").result(5), c[2]);
        }
        Doc.says("II", "PLAIN BIDS: in full, if they are no more than POOL together,");
        BillTender x = Check.told("offer 10;limit 100;share 30;plain 0 lots 2;plain 1 lots 1;");
        bids(x, 5, 2, 1);
        x.change(0, 0, 1);
        bids(x, 5, 1, 1);
        Check.due("SOLD to PLAIN ones (21)", x.result(4), 2);
        Doc.says("II", "else POOL is their PART.");
        // 3 of 4: 6 by 4 is 1, rest 2, of both.
        x.change(0, 0, 2);
        x.change(1, 0, 2);
        bids(x, 5, 2, 1);
        Check.due("SOLD to PLAIN ones (21)", x.result(4), 3);
        // By what is ADMITTED: ROOM is 4, so 4 and 4 share 3, though one asks for 9. A POOL of nothing is nothing.
        BillTender y = Check.told("offer 10;limit 40;share 30;plain 0 lots 4;plain 1 lots 9;");
        bids(y, 5, 2, 1);
        y.term(2, 9);
        bids(y, 5, 0, 0);
        y.withdraw(0);
        y.change(0, 0, 1);
        bids(y, 5, 0);
        y.term(2, 10);
        bids(y, 5, 1);
        y.term(2, 9);
        bids(y, 5, 0);
        // A PART of PLAIN ones beside one at STOP: 3 of 20 is 1, rest 10, twice; 17 of 18 is 8, rest 9, twice.
        BillTender both = Check.told("offer 20;limit 100;share 15;plain 0 lots 10;plain 1 lots 10;bid 2 5 lots 9;bid 3 5 lots 9;");
        bids(both, 5, 2, 1, 9, 8);
        Doc.says("II", "REST: OFFER less what is SOLD to PLAIN ones.");
        BillTender z = Check.told("offer 10;limit 100;share 30;");
        Check.due("REST without BIDS (21)", z.result(6), 10);
        z.bid(0, -1, 1);
        Check.due("REST below POOL (21)", z.result(6), 9);
        z.bid(0, -1, 9);
        Check.due("REST behind POOL (21)", z.result(6), 7);
        z.term(2, 100);
        Check.due("REST of nothing (21)", z.result(6), 0);
    }

    private static void stop() {
        Doc.says("II", "STOP: the least YIELD by which BIDS with this YIELD or less are as much as REST or more (ADMITTED);");
        BillTender x = Check.told("offer 10;limit 100;share 0;bid 0 3 lots 4;bid 1 5 lots 6;bid 2 7 lots 1;");
        Check.due("STOP by as much (21)", x.result(0), 5);
        x.change(1, 0, 5);
        Check.due("STOP by one less (21)", x.result(0), 7);
        x.change(1, 0, 7);
        Check.due("STOP by one more (21)", x.result(0), 5);
        x.change(0, 0, 10);
        Check.due("STOP by the first alone (21)", x.result(0), 3);
        x.change(0, 1, 0);
        Check.due("STOP 0 (21)", x.result(0), 0);
        // ROOM is 4: of 10 LOTS each no more than 4 count.
        BillTender y = Check.told("offer 10;limit 40;share 0;bid 0 3 lots 10;bid 1 5 lots 10;bid 2 7 lots 10;");
        Check.due("STOP by what is ADMITTED (21)", y.result(0), 7);
        // REST, not OFFER: 3 of 10 are SOLD to a PLAIN one.
        BillTender z = Check.told("offer 10;limit 100;share 30;bid 0 3 lots 7;plain 1 lots 3;bid 2 7 lots 10;");
        Check.due("STOP by REST (21)", z.result(0), 3);
        Doc.says("II", "those below STOP are SOLD in full, those at STOP get what is left of REST (in full, or as PART).");
        BillTender w = Check.told("offer 10;limit 100;share 0;bid 0 3 lots 4;bid 1 5 lots 6;bid 2 7 lots 1;");
        bids(w, 5, 4, 6, 0);
        Check.due("in full (21)", w.result(10), 0);
        w.bid(3, 5, 6);
        bids(w, 5, 4, 3, 0, 3);
        Check.due("as PART (21)", w.result(10), 1);
        w.withdraw(3);
        w.change(1, 0, 5);
        bids(w, 5, 4, 5, 1);
        w.change(1, 0, 999);
        bids(w, 5, 4, 6, 0);
    }

    private static void noStop() {
        Doc.says("II", "If all are less: STOP is the greatest YIELD of one that is ADMITTED (1 LOT on),");
        BillTender x = Check.told("limit 50;share 0;yields 0 to 8;bid 0 3 lots 4;bid 1 8 lots 6;bid 2 9 lots 9;bid 3 7 lots 2;");
        Check.due("STOP (21)", x.result(0), 8);
        BillTender y = Check.told("offer 10;limit 50;share 0;bid 0 3 lots 5;bid 0 8 lots 1;");
        Check.due("STOP without ROOM at the greatest (21)", y.result(0), 3);
        y.change(0, 0, 4);
        Check.due("STOP with 1 LOT at the greatest (21)", y.result(0), 8);
        Doc.says("II", "all are SOLD in full");
        bids(x, 5, 4, 6, 0, 2);
        Check.due("no PART (21)", x.result(10), 0);
        Check.due("LOTS that aren't SOLD (21)", x.result(11), 88);
        Doc.says("II", "(-2: there is none).");
        String[] without = {"", "plain 0 lots 5;", "yields 5 to 9;bid 0 4 lots 1;bid 1 10 lots 1;", "holds 0 35;bid 0 5 lots 1;", "offer 2;bid 0 5 lots 1;"};
        for (String text : without) {
            Check.due("STOP of '" + text + "' (21)", Check.told(text).result(0), -2);
        }
        Doc.says("II", "If REST is 0: STOP is -2, nothing is SOLD to them.");
        BillTender z = Check.told("offer 10;limit 100;share 100;plain 0 lots 10;bid 1 0 lots 9;bid 2 5 lots 9;");
        Check.due("STOP (21)", z.result(0), -2);
        bids(z, 5, 10, 0, 0);
        bids(z, 3, 10, 9, 9);
        z.change(0, 0, 9);
        Check.due("STOP by REST 1 (21)", z.result(0), 0);
        bids(z, 5, 9, 1, 0);
    }

    private static void average() {
        Doc.says("II", "AVERAGE: YIELDS of what is SOLD to BIDS with YIELDS, times LOTS, together, by these LOTS, cut;");
        // 2 at 1 and 3 at 4: 14 by 5; the 2 PLAIN ones don't count. By an OFFER of 5 it is 2 and 1: 6 by 3.
        BillTender x = Check.told("offer 7;limit 100;share 50;bid 0 1 lots 2;bid 1 4 lots 3;plain 2 lots 2;");
        Check.due("AVERAGE (21)", x.result(1), 2);
        Check.due("AVERAGE of 3 LOTS (32)", x.byOffer(5, 1), 2);
        Check.due("AVERAGE of 2 LOTS (32)", x.byOffer(4, 1), 1);
        BillTender y = Check.told("offer 2000;limit 100;share 0;bid 0 999 lots 1000;bid 1 999 lots 1000;");
        Check.due("the greatest (21)", y.result(1), 999);
        y.change(0, 1, 998);
        Check.due("the greatest, cut (21)", y.result(1), 998);
        Doc.says("II", "FROM, if nothing is.");
        BillTender z = Check.told("yields 40 to 50;plain 0 lots 5;bid 1 39 lots 5;");
        Check.due("AVERAGE (21)", z.result(1), 40);
        z.term(4, 40);
        Check.due("AVERAGE still (21)", z.result(1), 40);
    }

    private static void price() {
        Doc.says("II", "PRICE of a YIELD: 1,000,000 less YIELD times DAYS times 100 by 360 (cut).");
        int[][] prices = {{90, 0, 1000000}, {90, 1, 999975}, {90, 999, 975025}, {1, 3, 1000000}, {1, 4, 999999}, {1, 999, 999723},
            {7, 999, 998058}, {360, 1, 999900}, {360, 999, 900100}, {359, 999, 900378}};
        for (int[] p : prices) {
            BillTender x = Check.told("days " + p[0] + ";");
            Check.due("price of " + p[1] + " on " + p[0] + " days (26)", x.price(p[1]), p[2]);
        }
    }

    private static void pays() {
        String four = "offer 10;limit 100;share 30;days 360;bid 0 300 lots 4;bid 1 310 lots 5;plain 2 lots 3;bid 3 320 lots 1;";
        Doc.says("II", "PAYS: LOTS SOLD times the PRICE of: by ONE of STOP");
        BillTender x = Check.told(four);
        Check.row("pays (18)", x::pays, 4 * 969_000L, 3 * 969_000L, 3 * 969_000L, 0);
        Doc.says("II", "(of FROM, if STOP is -2),");
        BillTender y = Check.told("limit 100;yields 40 to 50;days 360;plain 0 lots 5;bid 0 60 lots 9;");
        Check.row("pays (18)", y::pays, 5 * 996_000L, 0);
        Doc.says("II", "by OWN of its YIELD");
        x.term(6, 1);
        Check.row("pays (18)", x::pays, 4 * 970_000L, 3 * 969_000L);
        Doc.says("II", "(of AVERAGE for PLAIN ones).");
        // 4 at 300 and 3 at 310: 2,130 by 7 is 304. Where nothing else is SOLD, AVERAGE is FROM.
        Check.due("pays of a PLAIN one (18)", x.pays(2), 3 * 969_600L);
        y.term(6, 1);
        Check.due("pays of PLAIN ones alone (18)", y.pays(0), 5 * 996_000L);
    }
}
