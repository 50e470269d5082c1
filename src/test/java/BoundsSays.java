/** Part I of the document: bounds of TERMS, HOUSES and BIDS, wherever a call or a TEXT tells them (its promise stands in brackets). */
final class BoundsSays {
    private static final int LEAST = Integer.MIN_VALUE;
    private static final int MOST = Integer.MAX_VALUE;
    private static final int[] NO_HOUSES = {-1, 8, LEAST, MOST};
    private static final int[] NO_LOTS = {0, 1001, -1, LEAST, MOST};
    private static final int[] NO_YIELDS = {-2, 1000, LEAST, MOST};

    private BoundsSays() {
    }

    static void run() {
        terms();
        fromAndTo();
        houses();
        holds();
        owners();
        bids();
        lots();
        yields();
        plain();
    }

    private static void terms() {
        Doc.says("I", "TERMS: OFFER (1 .. 2,000 LOTS; 100 at first)");
        bounds(0, 1, 2000, 100);
        told("offer ", 1, 2000);
        Doc.says("I", "LIMIT (1 .. 100 of a hundred; 35)");
        bounds(1, 1, 100, 35);
        told("limit ", 1, 100);
        Doc.says("I", "SHARE (0 .. 100 of a hundred; 20)");
        bounds(2, 0, 100, 20);
        told("share ", 0, 100);
        Doc.says("I", "DAYS (1 .. 360; 90)");
        bounds(5, 1, 360, 90);
        told("days ", 1, 360);
        Doc.says("I", "METHOD (0 ONE, 1 OWN; ONE)");
        bounds(6, 0, 1, 0);
        BillTender x = new BillTender();
        Check.due("text own (4)", Check.tell(x, "own;"), 0);
        Check.due("asTerm 6 (16)", x.asTerm(6), 1);
        Check.due("text one (4)", Check.tell(x, "own;one;"), 0);
        Check.due("asTerm 6 (16)", x.asTerm(6), 0);
    }

    /** The least and the most are taken by term() and byTerm(), what lies beyond them is not. */
    private static void bounds(int what, int least, int most, int first) {
        BillTender x = new BillTender();
        Check.due("asTerm at first (16)", x.asTerm(what), first);
        int[] beyond = {least - 1, most + 1, LEAST, MOST};
        for (int v : beyond) {
            Check.due("term " + v + " (8)", x.term(what, v), -1);
            Check.due("byTerm " + v + " (34)", x.byTerm(what, v, 3), -1);
        }
        Check.due("byTerm least (34)", x.byTerm(what, least, 3), 0);
        Check.due("byTerm most (34)", x.byTerm(what, most, 3), 0);
        Check.due("asTerm still (16)", x.asTerm(what), first);
        x.term(what, least);
        Check.due("asTerm least (16)", x.asTerm(what), least);
        x.term(what, most);
        Check.due("asTerm most (16)", x.asTerm(what), most);
    }

    private static void told(String word, int least, int most) {
        Check.read(word + least + ";", word + most + ";");
        Check.fault(word + (most + 1) + ";", word.length());
        if (least > 0) {
            Check.fault(word + (least - 1) + ";", word.length());
        }
    }

    private static void fromAndTo() {
        Doc.says("I", "FROM, TO (0 .. 999");
        bounds(3, 0, 999, 0);
        bounds(4, 0, 999, 999);
        Check.read("yields 0 to 0;", "yields 999 to 999;", "yields 0 to 999;");
        Check.fault("yields 1000 to 1000;", 7);
        Check.fault("yields 999 to 1000;", 14);
        Doc.says("I", ", TO no less than FROM");
        BillTender x = Check.told("yields 5 to 9;");
        Check.due("FROM above TO (8)", x.term(3, 10), -1);
        Check.due("TO below FROM (8)", x.term(4, 4), -1);
        Check.due("FROM above TO (34)", x.byTerm(3, 10, 3), -1);
        Check.due("TO below FROM (34)", x.byTerm(4, 4, 3), -1);
        Check.due("FROM as TO (34)", x.byTerm(3, 9, 3), 0);
        Check.due("TO as FROM (34)", x.byTerm(4, 5, 3), 0);
        Check.due("FROM as TO (8)", x.term(3, 9), 5);
        Check.due("FROM back (8)", x.term(3, 5), 9);
        Check.due("TO as FROM (8)", x.term(4, 5), 9);
        Check.fault("yields 5 to 4;", 12);
        Check.read("yields 5 to 5;");
        Doc.says("I", "; 0, 999)");
        Check.due("FROM at first (16)", new BillTender().asTerm(3), 0);
        Check.due("TO at first (16)", new BillTender().asTerm(4), 999);
    }

    private static void houses() {
        Doc.says("I", "HOUSES 0 .. 7:");
        BillTender x = Check.told("holds 7 4;bid 0 5 lots 6;bid 7 6 lots 7;bid 7 6 lots 1;");
        String was = Check.state(x);
        for (int h : NO_HOUSES) {
            Check.due("bid of HOUSE " + h + " (5)", x.bid(h, 5, 1), -1);
            Check.due("own of HOUSE " + h + " (9)", x.own(h, 0), -1);
            Check.due("own by HOUSE " + h + " (9)", x.own(0, h), -1);
            Check.due("merge of HOUSE " + h + " (11)", x.merge(h), -1);
            Check.due("hold of HOUSE " + h + " (13)", x.hold(h, 1), -1);
            Check.due("HOUSE " + h + " (19)", x.house(h, 0), -1);
            Check.due("housePays of HOUSE " + h + " (20)", x.housePays(h), -1);
            Check.due("mean of HOUSE " + h + " (23)", x.mean(h), -1);
            Check.due("limitFor HOUSE " + h + " (35)", x.limitFor(h, 1), -1);
            Check.due("soldAllAt of HOUSE " + h + " (42)", x.soldAllAt(h, 1), -1);
        }
        Check.due("nothing happens", Check.state(x), was);
        Check.due("merge of the last (11)", x.merge(7), 1);
        Check.due("own of the first by the last (9)", x.own(0, 7), 0);
        Check.due("own of the last by the first (9)", x.own(7, 0), 7);
        Check.due("hold of the last (13)", x.hold(7, 5), 4);
        Check.due("bid of the last (5)", x.bid(7, 5, 1), 2);
        Check.due("SOLD to the last (19)", x.house(7, 4), 9);
        Check.due("limitFor the last (35)", x.limitFor(7, 9), 14);
        Check.due("limitFor the first (35)", x.limitFor(0, 6), 6);
        Check.due("soldAllAt of the last (42)", x.soldAllAt(7, 5), 9);
        Check.read("holds 0 1;holds 7 1;owner 0 7;owner 7 0;bid 0 5 lots 1;bid 7 5 lots 1;plain 0 lots 1;plain 7 lots 1;");
        Check.fault("holds 8 1;", 6);
        Check.fault("owner 8 1;", 6);
        Check.fault("owner 1 8;", 8);
        Check.fault("bid 8 5 lots 1;", 4);
        Check.fault("plain 8 lots 1;", 6);
    }

    private static void holds() {
        Doc.says("I", "each HOLDS so many LOTS (0 .. 9,999; 0)");
        BillTender x = new BillTender();
        Check.row("HOLDS at first (19)", h -> x.house(h, 0), 0, 0, 0, 0, 0, 0, 0, 0);
        int[] beyond = {-1, 10000, LEAST, MOST};
        for (int v : beyond) {
            Check.due("hold " + v + " (13)", x.hold(3, v), -1);
        }
        Check.due("HOLDS still (19)", x.house(3, 0), 0);
        Check.due("hold most (13)", x.hold(3, 9999), 0);
        Check.due("HOLDS most (19)", x.house(3, 0), 9999);
        Check.due("hold least (13)", x.hold(3, 0), 9999);
        Check.read("holds 3 9999;", "holds 3 0;");
        Check.fault("holds 3 10000;", 8);
    }

    private static void owners() {
        Doc.says("I", "and has an OWNER (a HOUSE; itself at first;");
        BillTender x = new BillTender();
        Check.row("OWNER at first (19)", h -> x.house(h, 5), 0, 1, 2, 3, 4, 5, 6, 7);
        Check.row("have it at first (19)", h -> x.house(h, 6), 1, 1, 1, 1, 1, 1, 1, 1);
        Check.due("OWNERS at first (49)", x.count(8), 8);
        Doc.says("I", "of HOUSES with one OWNER each other's OWNERS aren't asked).");
        // 1 has OWNER 0, which has OWNER 3: what 0 HOLDS counts for 3, not for 1. 4 and 5 have one another.
        BillTender y = Check.told("offer 100;limit 20;owner 1 0;owner 0 3;holds 0 5;holds 3 6;owner 4 5;owner 5 4;holds 4 7;");
        Check.row("ROOM (19)", h -> y.house(h, 1), 9, 20, 20, 9, 13, 20, 20, 20);
        Check.row("have it (19)", h -> y.house(h, 6), 1, 0, 1, 2, 1, 1, 1, 1);
    }

    private static void bids() {
        Doc.says("I", "BIDS 0, 1 .. (at most 30):");
        BillTender x = new BillTender();
        for (int n = 0; n < 30; n++) {
            Check.due("bid " + n + " (5)", x.bid(0, 5, 2), n);
        }
        Check.due("a 31st (5)", x.bid(0, 5, 2), -1);
        Check.due("a 31st by parting (10)", x.split(0, 1), false);
        Check.due("BIDS (49)", x.count(0), 30);
        Check.due("the last one (17)", x.of(29, 2), 2);
        Check.due("none behind it (17)", x.of(30, 2), -1);
        thirty(Check.told("limit 100;share 100;days 360;" + "bid 0 5 lots 1;bid 1 5 lots 1;plain 2 lots 1;".repeat(10)));
        Check.due("thirty told (4)", Check.tell(x, "plain 1 lots 1;".repeat(30)), 30);
        Check.due("a 31st told (4)", Check.tell(x, "plain 1 lots 1;".repeat(31)), -4 - 450);
    }

    /** With as many BIDS as there can be every call that goes through them answers; all 30 LOTS are SOLD here. */
    private static void thirty(BillTender x) {
        Check.due("housePays (20)", x.housePays(2), 10 * 999_500L);
        Check.row("result (21)", x::result, 5, 5, 0, 30, 10, 100, 90, 20, 30, 20, 0, 70);
        Check.due("paid (22)", x.paid(), 30 * 999_500L);
        Check.due("dearest (25)", x.dearest(), 0);
        Check.due("upTo (27)", x.upTo(999), 20);
        Check.due("ranked (28)", x.ranked(29), 28);
        Check.due("full (29)", x.full(), 0);
        Check.due("crowded (30)", x.crowded(), 3 * 33 * 33);
        Check.due("step (31)", x.step(0, 4), 20);
        Check.due("byOffer (32)", x.byOffer(20, 3), 20);
        Check.due("offerFor (33)", x.offerFor(5), 11);
        Check.due("limitFor (35)", x.limitFor(0, 10), 10);
        Check.due("shareFor (36)", x.shareFor(10), 10);
        Check.due("lotsFor (37)", x.lotsFor(29, 3), 3);
        Check.due("bestOffer (38)", x.bestOffer(), 30);
        Check.due("soldAt (40)", x.soldAt(28, 6), 1);
        Check.due("yieldFor (41)", x.yieldFor(28, 1), 999);
        Check.due("soldAllAt (42)", x.soldAllAt(1, 7), 10);
        Check.due("stopWithout (43)", x.stopWithout(29), 5);
        Check.due("pivot (44)", x.pivot(), 0);
        Check.row("count (49)", x::count, 30, 10, 0, 0, 0, 0, 0, 3, 8);
        Check.due("settle (14)", x.settle(), 30);
        Check.row("HOLDS (19)", h -> x.house(h, 0), 10, 10, 10, 0);
    }

    private static void lots() {
        Doc.says("I", "a HOUSE, LOTS (1 .. 1,000),");
        BillTender x = Check.told("bid 0 5 lots 2;plain 0 lots 2;");
        String was = Check.state(x);
        for (int v : NO_LOTS) {
            Check.due("bid of LOTS " + v + " (5)", x.bid(0, 5, v), -1);
            Check.due("PLAIN bid of LOTS " + v + " (5)", x.bid(0, -1, v), -1);
            Check.due("change to LOTS " + v + " (7)", x.change(0, 0, v), -1);
            Check.due("change of a PLAIN one to LOTS " + v + " (7)", x.change(1, 0, v), -1);
        }
        Check.due("nothing happens", Check.state(x), was);
        Check.due("bid least (5)", x.bid(0, 5, 1), 2);
        Check.due("bid most (5)", x.bid(0, 5, 1000), 3);
        Check.due("change to the most (7)", x.change(0, 0, 1000), 2);
        Check.due("change to the least (7)", x.change(0, 0, 1), 1000);
        Check.read("bid 0 5 lots 1;", "bid 0 5 lots 1000;", "plain 0 lots 1;", "plain 0 lots 1000;");
        Check.fault("bid 0 5 lots 0;", 13);
        Check.fault("bid 0 5 lots 1001;", 13);
        Check.fault("plain 0 lots 0;", 13);
        Check.fault("plain 0 lots 1001;", 13);
    }

    private static void yields() {
        Doc.says("I", "a YIELD (0 .. 999),");
        BillTender x = Check.told("bid 0 5 lots 2;");
        String was = Check.state(x);
        for (int v : NO_YIELDS) {
            Check.due("bid at " + v + " (5)", x.bid(0, v, 1), -1);
            Check.due("change to " + v + " (7)", x.change(0, 1, v), -1);
            Check.due("price of " + v + " (26)", x.price(v), -1);
            Check.due("upTo " + v + " (27)", x.upTo(v), -1);
            Check.due("offerFor " + v + " (33)", x.offerFor(v), -1);
            Check.due("soldAt " + v + " (40)", x.soldAt(0, v), -1);
            Check.due("soldAllAt " + v + " (42)", x.soldAllAt(0, v), -1);
        }
        Check.due("change to PLAIN (7)", x.change(0, 1, -1), -1);
        Check.due("nothing happens", Check.state(x), was);
        Check.due("bid at the least (5)", x.bid(0, 0, 1), 1);
        Check.due("bid at the most (5)", x.bid(0, 999, 1), 2);
        Check.due("change to the least (7)", x.change(0, 1, 0), 5);
        Check.due("change to the most (7)", x.change(0, 1, 999), 0);
        Check.read("bid 0 0 lots 1;", "bid 0 999 lots 1;");
        Check.fault("bid 0 1000 lots 1;", 6);
    }

    private static void plain() {
        Doc.says("I", "or PLAIN (without).");
        BillTender x = new BillTender();
        Check.due("bid (5)", x.bid(3, BillTender.NONE, 4), 0);
        Check.due("told (4)", Check.tell(new BillTender(), "plain 3 lots 4;"), 1);
        Check.due("its YIELD (17)", x.of(0, 1), -2);
        Check.due("PLAIN ones (49)", x.count(1), 1);
        Check.due("change of its YIELD (7)", x.change(0, 1, 5), -1);
        Check.due("soldAt (40)", x.soldAt(0, 5), -1);
        Check.due("yieldFor (41)", x.yieldFor(0, 1), -1);
    }
}
