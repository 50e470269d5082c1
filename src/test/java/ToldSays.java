/** Promises 1 to 4, sentence by sentence. */
final class ToldSays {
    private static final int BLANKS = 0x20202020;

    private ToldSays() {
    }

    static void run() {
        newObject();
        feed();
        back();
        text();
    }

    private static void newObject() {
        BillTender x = new BillTender();
        Doc.says("1", "No BIDS,");
        Check.due("count 0", x.count(0), 0);
        Check.due("of 0", x.of(0, 2), -1);
        Check.due("SOLD", x.result(3), 0);
        Doc.says("1", "TERMS as at first,");
        Check.row("asTerm", x::asTerm, 100, 35, 20, 0, 999, 90, 0);
        Doc.says("1", "nothing held.");
        Check.row("HOLDS", h -> x.house(h, 0), 0, 0, 0, 0, 0, 0, 0, 0);
        Check.row("ROOM", h -> x.house(h, 1), 35, 35, 35, 35, 35, 35, 35, 35);
        Check.row("counts", x::count, 0, 0, 0, 0, 0, 0, 0, 0, 8);
    }

    private static void feed() {
        Doc.says("2", "Twenty bytes, the highest of a first, come behind the tape: how many it has.");
        BillTender x = new BillTender();
        // "days 7;owner 3 4;own" and ";" with blanks behind it.
        Check.due("feed", x.feed(0x64617973, 0x20373b6f, 0x776e6572, 0x20332034, 0x3b6f776e), 20);
        Check.due("feed", x.feed(0x3b202020, BLANKS, BLANKS, BLANKS, BLANKS), 40);
        Check.due("text", x.text(), 0);
        Check.due("DAYS", x.asTerm(5), 7);
        Check.due("OWNER", x.house(3, 5), 4);
        Check.due("METHOD", x.asTerm(6), 1);
        // Bytes are 0 to 255, also those at which a number is below 0.
        x.feed(BLANKS, 0x20202080, BLANKS, BLANKS, BLANKS);
        Check.due("text with a byte 128", x.text(), -4 - 7);
        x.feed(-1, -1, -1, -1, -1);
        Check.due("text of bytes 255", x.text(), -4);
        x.feed(BLANKS, BLANKS, BLANKS, BLANKS, 0x20202000);
        Check.due("text with a byte 0", x.text(), -4 - 19);
        Doc.says("2", "NONE, and nothing comes, if it would have more than 700.");
        BillTender y = new BillTender();
        for (int n = 1; n < 35; n++) {
            Check.due("feed " + n, y.feed(BLANKS, BLANKS, BLANKS, BLANKS, BLANKS), 20 * n);
        }
        // "offer 7;" is the last that comes.
        Check.due("back 1 of 680", y.back(1), 679);
        Check.due("feed to 699", y.feed(0x6f666665, 0x7220373b, BLANKS, BLANKS, BLANKS), 699);
        Check.due("feed to 719", y.feed(1, 2, 3, 4, 5), -1);
        Check.due("nothing came", y.count(4), 699);
        Check.due("back 18", y.back(18), 681);
        Check.due("feed to 701", y.feed(1, 2, 3, 4, 5), -1);
        Check.due("nothing came", y.count(4), 681);
        Check.due("back 1", y.back(1), 680);
        Check.due("feed to 700", y.feed(0x66666572, 0x20383b20, BLANKS, BLANKS, BLANKS), 700);
        Check.due("feed to 720", y.feed(-1, -1, -1, -1, -1), -1);
        Check.due("nothing came", y.count(4), 700);
        Check.due("text of 700 bytes", y.text(), 0);
        Check.due("OFFER", y.asTerm(0), 8);
    }

    private static void back() {
        Doc.says("3", "The last n bytes of the tape go: how many it has.");
        BillTender x = new BillTender();
        Check.due("back 0 of none", x.back(0), 0);
        Check.feed(x, "offer 7;offer 8;");
        Check.due("back 0", x.back(0), 16);
        Check.due("back 8", x.back(8), 8);
        Check.feed(x, "days 5;x");
        Check.due("back 1", x.back(1), 15);
        Check.due("text of the rest", x.text(), 0);
        Check.due("OFFER", x.asTerm(0), 7);
        Check.due("DAYS", x.asTerm(5), 5);
        Check.feed(x, "offer 7;");
        Check.due("all go", x.back(8), 0);
        Doc.says("3", "NONE, and nothing goes, if it has not so many,");
        Check.due("back 1 of none", x.back(1), -1);
        Check.feed(x, "offer 9;");
        Check.due("back 9 of 8", x.back(9), -1);
        Check.due("back most", x.back(Integer.MAX_VALUE), -1);
        Check.due("nothing went", x.count(4), 8);
        Doc.says("3", "or n is below 0.");
        Check.due("back -1", x.back(-1), -1);
        Check.due("back least", x.back(Integer.MIN_VALUE), -1);
        Check.due("nothing went", x.count(4), 8);
        Check.due("text", x.text(), 0);
        Check.due("OFFER", x.asTerm(0), 9);
    }

    private static void text() {
        Doc.says("4", "The tape (empty then, behind a FAULT, too) is the TEXT,");
        BillTender x = new BillTender();
        Check.due("text of an empty tape", x.text(), 0);
        Check.due("text", Check.tell(x, "offer 7;"), 0);
        Check.due("the tape is empty", x.count(4), 0);
        Check.due("text with a FAULT", Check.tell(x, "offer 9;offer 0;"), -4 - 14);
        Check.due("the tape is empty", x.count(4), 0);
        Check.due("nothing of it is left", Check.tell(x, "days 5;"), 0);
        Check.due("DAYS", x.asTerm(5), 5);
        Doc.says("4", "all anew (TERMS as at first, if not told;");
        BillTender y = Check.told("offer 9;limit 8;share 7;yields 5 to 6;days 4;own;holds 0 3;holds 7 3;owner 0 2;owner 7 2;bid 0 5 lots 1;");
        Check.due("text", Check.tell(y, "limit 50;"), 0);
        Check.row("asTerm", y::asTerm, 100, 50, 20, 0, 999, 90, 0);
        Check.row("HOLDS", h -> y.house(h, 0), 0, 0, 0, 0, 0, 0, 0, 0);
        Check.row("OWNER", h -> y.house(h, 5), 0, 1, 2, 3, 4, 5, 6, 7);
        Check.due("BIDS", y.count(0), 0);
        Doc.says("4", "the RECORD is gone):");
        BillTender z = new BillTender();
        z.bid(0, 5, 1);
        z.settle();
        z.bid(0, 5, 1);
        z.pivot();
        Check.due("lines ahead", z.count(2), 1);
        Check.due("text", z.text(), 0);
        Check.due("lines", z.count(2), 0);
        Check.due("record", z.record(0, 0), -1);
        Check.due("records", z.records(0), 0);
        Check.due("recordPaid", z.recordPaid(0), -1);
        Doc.says("4", "how many BIDS;");
        Check.due("none", Check.tell(z, "holds 0 1;"), 0);
        Check.due("two", Check.tell(z, "bid 0 5 lots 1;plain 0 lots 1;"), 2);
        Check.due("thirty", Check.tell(z, "bid 0 5 lots 1;".repeat(30)), 30);
        Doc.says("4", "-4 less its FAULT,");
        Check.due("FAULT 0", Check.tell(z, "?"), -4);
        Check.due("FAULT 1", Check.tell(z, " ?"), -5);
        Check.due("FAULT 700", Check.tell(z, "one" + " ".repeat(697)), -704);
        Doc.says("4", "and all else stays.");
        BillTender w = Check.told("offer 50;holds 1 2;owner 2 3;bid 0 5 lots 1;plain 1 lots 2;");
        w.settle();
        w.bid(3, 6, 4);
        w.term(6, 1);
        String was = Check.state(w);
        Check.due("FAULT at the end", Check.tell(w, "days 5;holds 3 3;owner 1 1;owner 2 2;plain 0 lots 9;one;?"), -4 - 56);
        Check.due("all stays", Check.state(w), was);
        Check.due("undo", w.undo(), 2);
        Check.due("METHOD", w.asTerm(6), 0);
    }
}
