/** Promises 1 to 4: a new object, the tape, and a TEXT with its FAULTS. */
public final class ToldTest {
    private static final String FIRST = "offer 100;limit 35;share 20;yields 0 to 999;days 90;one;";

    public static void main(String[] args) {
        newObject();
        feed();
        back();
        textIsAllAnew();
        faultLeavesAllElse();
        latestHolds();
        gaps();
        words();
        numbers();
        bounds();
        endsTooEarly();
        thirtyBids();
        Check.finish();
    }

    private static void newObject() {
        BillTender x = new BillTender();
        Check.due("1: spelled", Check.spelled(x), FIRST);
        for (int what = 0; what < 8; what++) {
            Check.due("1: count " + what, x.count(what), 0);
            Check.due("1: held by " + what, x.house(what, 0), 0);
            Check.due("1: owner of " + what, x.house(what, 5), what);
        }
        Check.due("1: NONE", BillTender.NONE, -1);
    }

    private static void feed() {
        BillTender x = new BillTender();
        for (int n = 1; n <= 35; n++) {
            Check.due("2: feed " + n, x.feed(0x20202020, 0x20202020, 0x20202020, 0x20202020, 0x20202020), n * 20);
        }
        Check.due("2: feed beyond 700", x.feed(1, 2, 3, 4, 5), -1);
        Check.due("2: nothing came", x.count(4), 700);
        Check.due("2: back 19", x.back(19), 681);
        Check.due("2: feed to 701", x.feed(1, 2, 3, 4, 5), -1);
        Check.due("2: back 1", x.back(1), 680);
        Check.due("2: feed to 700", x.feed(0x20202020, 0x20202020, 0x20202020, 0x20202020, 0x20202020), 700);
        Check.due("2: 700 blanks are a TEXT", x.text(), 0);
        // The highest byte of a comes first: "days 7;owner 3 4;one" in this order.
        x.feed(0x64617973, 0x20373b6f, 0x776e6572, 0x20332034, 0x3b6f776e);
        x.feed(0x3b202020, 0x20202020, 0x20202020, 0x20202020, 0x20202020);
        Check.due("2: text", x.text(), 0);
        Check.due("2: order of bytes", Check.spelled(x), "offer 100;limit 35;share 20;yields 0 to 999;days 7;own;owner 3 4;");
        x.feed(-1, 0, 0, 0, 0);
        Check.due("2: bytes above 127", x.text(), -4);
    }

    private static void back() {
        BillTender x = new BillTender();
        Check.due("3: back 0 of none", x.back(0), 0);
        Check.due("3: back 1 of none", x.back(1), -1);
        Check.feed(x, "offer 7;limit 8;share");
        Check.due("3: bytes", x.count(4), 21);
        Check.due("3: back -1", x.back(-1), -1);
        Check.due("3: back least", x.back(Integer.MIN_VALUE), -1);
        Check.due("3: back 22", x.back(22), -1);
        Check.due("3: back most", x.back(Integer.MAX_VALUE), -1);
        Check.due("3: nothing went", x.count(4), 21);
        Check.due("3: back 5", x.back(5), 16);
        Check.due("3: what is left is read", x.text(), 0);
        Check.due("3: offer", x.asTerm(0), 7);
        Check.due("3: limit", x.asTerm(1), 8);
        Check.due("3: share", x.asTerm(2), 20);
        Check.feed(x, "offer 9;");
        Check.due("3: all go", x.back(8), 0);
    }

    private static void textIsAllAnew() {
        BillTender x = new BillTender();
        x.term(0, 500);
        x.hold(3, 40);
        x.hold(0, 7);
        x.own(0, 2);
        x.own(7, 2);
        x.bid(0, 5, 10);
        x.settle();
        x.bid(1, 5, 10);
        x.pivot();
        Check.due("4: lines ahead", x.count(2), 1);
        Check.due("4: acts ahead", x.count(3), 8);
        Check.due("4: text", Check.tell(x, "bid 7 999 lots 1000;plain 0 lots 1;days 1;"), 2);
        Check.due("4: all anew", Check.spelled(x),
            "offer 100;limit 35;share 20;yields 0 to 999;days 1;one;bid 7 999 lots 1000;plain 0 lots 1;");
        Check.due("4: the RECORD is gone", x.count(2), 0);
        Check.due("4: ACTS are forgotten", x.count(3), 0);
        Check.due("4: none to undo", x.undo(), -1);
        Check.due("4: the tape is empty", x.count(4), 0);
        Check.due("4: empty TEXT", x.text(), 0);
        Check.due("4: as at first", Check.spelled(x), FIRST);
    }

    private static void faultLeavesAllElse() {
        BillTender x = new BillTender();
        x.bid(0, 5, 10);
        x.settle();
        x.bid(1, 6, 7);
        String was = Check.spelled(x);
        Check.due("4: fault", Check.tell(x, "offer 5;bid 0 1 lots 1;own;holds 1 1;x"), -4 - 37);
        Check.due("4: all stays", Check.spelled(x), was);
        Check.due("4: the RECORD stays", x.count(2), 1);
        Check.due("4: ACTS stay", x.count(3), 3);
        Check.due("4: the tape is empty behind a FAULT", x.count(4), 0);
        Check.due("4: undo goes on", x.undo(), 2);
        Check.due("4: behind undo", x.count(0), 0);
    }

    private static void latestHolds() {
        BillTender x = Check.told("offer 1;offer 2000;limit 1;limit 100;share 1;share 0;yields 5 to 9;yields 2 to 3;days 1;days 360;"
            + "own;one;own;holds 4 1;holds 4 9999;holds 0 3;holds 0 0;owner 6 5;owner 6 4;owner 5 4;owner 5 5;");
        Check.due("4: the latest", Check.spelled(x),
            "offer 2000;limit 100;share 0;yields 2 to 3;days 360;own;holds 4 9999;owner 6 4;");
    }

    private static void gaps() {
        faultAt("\n offer\n7 \n;\n\n one\n;", -1);
        faultAt("bid 0 5 lots 1 ; plain 0 lots 1\n;", -1);
        faultAt("offer7;", 5);
        faultAt("bid 0 5lots 1;", 7);
        faultAt("bid 0 5 lots1;", 12);
        faultAt("yields 5to 6;", 8);
        faultAt("yields 5 to6;", 11);
        faultAt("plain 0lots 1;", 7);
        faultAt("holds0 1;", 5);
        faultAt("bid 0 5 lots 1bid 0 5 lots 1;", 14);
        faultAt("one one;", 4);
        faultAt("one5;", 3);
        faultAt("offer\t7;", 5);
        faultAt("offer 7\r;", 7);
        faultAt("own;" + (char) 160, 4);
        faultAt("own;" + (char) 0, 4);
    }

    private static void words() {
        faultAt("Offer 7;", 0);
        faultAt("off 7;", 0);
        faultAt("iffer 7;", 0);
        faultAt("offex 7;", 0);
        faultAt("onez;", 0);
        faultAt("aone;", 0);
        faultAt("offers 7;", 0);
        faultAt("owne 0 1;", 0);
        faultAt("ownerx 0 1;", 0);
        faultAt("one;one", 7);
        faultAt("one;on", 4);
        faultAt("7;", 0);
        faultAt(";", 0);
        faultAt("one;;", 4);
        faultAt("one;to;", 4);
        faultAt("lots 5;", 0);
        faultAt("yields 5 at 7;", 9);
        faultAt("yields 5 too 7;", 9);
        faultAt("yields 5 t", 9);
        faultAt("bid 0 5 lot 1;", 8);
        faultAt("bid 0 5 lotss 1;", 8);
        faultAt("bid 0 lots 1;", 6);
        faultAt("plain 0 5 lots 1;", 8);
        faultAt("offer x;", 6);
        faultAt("offer -5;", 6);
        faultAt("offer 5 6;", 8);
        faultAt("offer 5,", 7);
        faultAt("offer 5 limit 6;", 8);
    }

    private static void numbers() {
        faultAt("offer 00007;", -1);
        faultAt("offer 000007;", 6);
        faultAt("offer 100000;", 6);
        faultAt("offer 99999999999999999999;", 6);
        faultAt("offer 4294967297;", 6);
        faultAt("bid 00000 00000 lots 00001;", -1);
        faultAt("bid 000000 5 lots 1;", 4);
    }

    private static void bounds() {
        faultAt("offer 1;offer 2000;", -1);
        faultAt("offer 0;", 6);
        faultAt("offer 2001;", 6);
        faultAt("limit 1;limit 100;", -1);
        faultAt("limit 0;", 6);
        faultAt("limit 101;", 6);
        faultAt("share 0;share 100;", -1);
        faultAt("share 101;", 6);
        faultAt("yields 0 to 0;yields 999 to 999;", -1);
        faultAt("yields 1000 to 1000;", 7);
        faultAt("yields 0 to 1000;", 12);
        faultAt("yields 7 to 6;", 12);
        faultAt("days 1;days 360;", -1);
        faultAt("days 0;", 5);
        faultAt("days 361;", 5);
        faultAt("holds 0 0;holds 7 9999;", -1);
        faultAt("holds 8 0;", 6);
        faultAt("holds 7 10000;", 8);
        faultAt("owner 0 7;owner 7 0;", -1);
        faultAt("owner 8 0;", 6);
        faultAt("owner 0 8;", 8);
        faultAt("bid 0 0 lots 1;bid 7 999 lots 1000;", -1);
        faultAt("bid 8 0 lots 1;", 4);
        faultAt("bid 0 1000 lots 1;", 6);
        faultAt("bid 0 0 lots 0;", 13);
        faultAt("bid 0 0 lots 1001;", 13);
        faultAt("plain 7 lots 1000;plain 0 lots 1;", -1);
        faultAt("plain 8 lots 1;", 6);
        faultAt("plain 0 lots 0;", 13);
        faultAt("plain 0 lots 1001;", 13);
    }

    private static void endsTooEarly() {
        String[] early = {"offer", "offer ", "offer 5", "offer 5 \n", "yields", "yields 5", "yields 5 ", "yields 5 to", "yields 5 to 5",
            "one", "holds", "holds 1", "holds 1 1", "owner 1", "bid", "bid 0", "bid 0 5", "bid 0 5 lots", "bid 0 5 lots 1",
            "plain", "plain 0", "plain 0 lots", "plain 0 lots 1 "};
        for (String text : early) {
            faultAt(text, text.length());
            faultAt("one;" + text, 4 + text.length());
        }
        faultAt("offer 2001", 6);
        faultAt("  ", -1);
    }

    private static void thirtyBids() {
        String fifteen = "plain 0 lots 1;bid 0 1 lots 1;".repeat(15);
        BillTender x = new BillTender();
        Check.due("4: thirty", Check.tell(x, fifteen), 30);
        Check.due("4: count", x.count(0), 30);
        Check.due("4: other things may follow", Check.tell(x, fifteen + "own;"), 30);
        Check.due("4: a 31st bid", Check.tell(x, fifteen + "bid 9"), -4 - 450);
        Check.due("4: a 31st plain one", Check.tell(x, fifteen + " plain 0 lots 1;"), -4 - 451);
    }

    private static void faultAt(String text, int fault) {
        BillTender x = new BillTender();
        Check.feed(x, text);
        int answer = x.text();
        if (fault >= 0) {
            Check.due("4: text() of '" + text + "'", answer, -4 - fault);
        } else {
            Check.due("4: text() of '" + text + "'", answer, x.count(0));
        }
    }
}
