/** Promises 45 to 49, sentence by sentence. */
final class RecordSays {
    private static final int LEAST = Integer.MIN_VALUE;
    private static final int MOST = Integer.MAX_VALUE;

    private RecordSays() {
    }

    static void run() {
        record();
        records();
        recordPaid();
        spell();
        spellEdges();
        longest();
        count();
    }

    /** Lines, the latest first: nothing SOLD; 2 at 11 by ONE; 3 at 2 and 4 at 4 by OWN. */
    private static BillTender three() {
        BillTender x = Check.told("offer 10;limit 100;share 0;days 360;own;bid 0 2 lots 3;bid 1 4 lots 4;");
        x.settle();
        x.term(6, 0);
        x.bid(2, 11, 2);
        x.settle();
        x.bid(3, -1, 5);
        x.settle();
        return x;
    }

    private static void record() {
        BillTender x = three();
        Doc.says("45", "Of the k-th line of the RECORD (0 the latest): 0 STOP,");
        Check.row("STOP of line", k -> x.record(k, 0), -2, 11, 4);
        Doc.says("45", "1 AVERAGE,");
        Check.row("AVERAGE of line", k -> x.record(k, 1), 0, 11, 3);
        Doc.says("45", "2 LOTS SOLD.");
        Check.row("SOLD of line", k -> x.record(k, 2), 0, 2, 7);
        Doc.says("45", "NONE: no such ones.");
        int[][] wrong = {{3, 0}, {3, 2}, {-1, 0}, {8, 0}, {0, 3}, {0, -1}, {LEAST, 0}, {MOST, 0}, {0, LEAST}, {0, MOST}};
        for (int[] w : wrong) {
            Check.due("record " + w[0] + " " + w[1], x.record(w[0], w[1]), -1);
        }
        Check.due("of none", new BillTender().record(0, 0), -1);
        x.undo();
        Check.due("taken back", x.record(2, 0), -1);
    }

    private static BillTender nine() {
        BillTender x = new BillTender();
        for (int n = 0; n < 9; n++) {
            x.bid(n % 8, 100 - n * n, 1 + n);
            x.settle();
        }
        return x;
    }

    /** STOPS, the latest first. */
    private static BillTender stops(int... latestFirst) {
        BillTender x = Check.told("limit 100;share 0;");
        for (int k = latestFirst.length - 1; k >= 0; k--) {
            x.bid(0, latestFirst[k] == -2 ? -1 : latestFirst[k], 1);
            x.settle();
        }
        return x;
    }

    private static void records() {
        BillTender x = three();
        BillTender nothingOldest = stops(6, 4, 9, -2);
        BillTender nothingBetween = stops(4, -2, 9, -2, 6);
        BillTender nine = nine();
        BillTender none = new BillTender();
        BillTender plain = Check.told("plain 0 lots 1;");
        plain.settle();
        BillTender zero = Check.told("bid 0 0 lots 1;");
        zero.settle();
        Doc.says("46", "Of all lines of the RECORD: 0 LOTS SOLD,");
        Check.due("three lines", x.records(0), 9);
        // Of nine lines, 1 to 9 LOTS, the first is not kept.
        Check.due("eight lines", nine.records(0), 44);
        Check.due("no lines", none.records(0), 0);
        Doc.says("46", "1 the mean of STOPS that are none of -2 (cut;");
        Check.due("of 11 and 4", x.records(1), 7);
        // 100 less 1, 4, 9, 16, 25, 36, 49, 64: 596 by 8.
        Check.due("eight lines", nine.records(1), 74);
        Check.due("STOP 0", zero.records(1), 0);
        Check.due("6, 4, 9, -2", nothingOldest.records(1), 6);
        Check.due("4, -2, 9, -2, 6", nothingBetween.records(1), 6);
        Doc.says("46", "-2: there is none),");
        Check.due("no lines", none.records(1), -2);
        Check.due("no STOP", plain.records(1), -2);
        Doc.says("46", "2 the greatest STOP (-2: none),");
        Check.due("of 11 and 4", x.records(2), 11);
        Check.due("eight lines", nine.records(2), 99);
        Check.due("STOP 0", zero.records(2), 0);
        Check.due("6, 4, 9, -2", nothingOldest.records(2), 9);
        Check.due("4, -2, 9, -2, 6", nothingBetween.records(2), 9);
        Check.due("no lines", none.records(2), -2);
        Check.due("no STOP", plain.records(2), -2);
        Doc.says("46", "3 the least one (-2: none).");
        Check.due("of 11 and 4", x.records(3), 4);
        Check.due("eight lines", nine.records(3), 36);
        Check.due("STOP 0", zero.records(3), 0);
        Check.due("6, 4, 9, -2", nothingOldest.records(3), 4);
        Check.due("4, -2, 9, -2, 6", nothingBetween.records(3), 4);
        Check.due("no lines", none.records(3), -2);
        Check.due("no STOP", plain.records(3), -2);
        Doc.says("46", "NONE for others.");
        int[] others = {-1, 4, LEAST, MOST};
        for (int what : others) {
            Check.due("records " + what, x.records(what), -1);
            Check.due("records " + what + " of none", none.records(what), -1);
        }
    }

    private static void recordPaid() {
        Doc.says("47", "What all PAID then.");
        BillTender x = three();
        Check.row("recordPaid", x::recordPaid, 0, 2 * 998_900L, 3 * 999_800L + 4 * 999_600L);
        x.term(5, 1);
        x.term(6, 1);
        Check.row("recordPaid by other TERMS", x::recordPaid, 0, 2 * 998_900L, 3 * 999_800L + 4 * 999_600L);
        BillTender most = Check.told("offer 2000;limit 100;bid 0 0 lots 1000;bid 1 0 lots 1000;");
        most.settle();
        Check.due("the most", most.recordPaid(0), 2_000_000_000L);
        Doc.says("47", "NONE: no such line.");
        int[] wrong = {-1, 3, 8, LEAST, MOST};
        for (int k : wrong) {
            Check.due("recordPaid " + k, x.recordPaid(k), -1);
        }
        Check.due("of none", new BillTender().recordPaid(0), -1);
        BillTender nine = nine();
        Check.due("the eighth", nine.recordPaid(7), 2L * nine.price(99));
        Check.due("no ninth", nine.recordPaid(8), -1);
    }

    private static void spell() {
        Doc.says("48", "TERMS,");
        Check.due("at first", Check.spelled(new BillTender()), "offer 100;limit 35;share 20;yields 0 to 999;days 90;one;");
        Check.due("others", Check.spelled(Check.told("own;days 1;yields 0 to 0;share 0;limit 1;offer 1;")), "offer 1;limit 1;share 0;yields 0 to 0;days 1;own;");
        String ahead = "offer 100;limit 35;share 20;yields 0 to 999;days 90;one;";
        Doc.says("48", "what HOUSES HOLD (0s left out),");
        Check.due("by HOUSES", Check.spelled(Check.told("holds 7 9999;holds 3 1;holds 0 10;holds 1 1;holds 1 0;")), ahead + "holds 0 10;holds 3 1;holds 7 9999;");
        Doc.says("48", "OWNERS that are not the HOUSE itself,");
        Check.due("by HOUSES", Check.spelled(Check.told("owner 7 0;owner 0 7;owner 3 4;owner 3 3;")), ahead + "owner 0 7;owner 7 0;");
        Doc.says("48", "BIDS as a TEXT, in the order above (yields as one),");
        String bids = "bid 0 999 lots 1000;plain 7 lots 1;bid 1 0 lots 1;plain 0 lots 1000;";
        Check.due("by numbers", Check.spelled(Check.told(bids)), ahead + bids);
        String all = "offer 2000;limit 100;share 100;yields 10 to 20;days 360;own;holds 1 2;owner 2 3;" + bids;
        Check.due("behind all else", Check.spelled(Check.told(bids + "owner 2 3;holds 1 2;own;days 360;yields 10 to 20;share 100;limit 100;offer 2000;")), all);
        Check.due("told again", Check.spelled(Check.told(all)), all);
        Doc.says("48", "one blank between WORDS, N, none else, no line ends:");
        Check.due("blanks, line ends, 0s ahead", Check.spelled(Check.told("\n\nbid  00001\n010   lots\n 00100 ;\n\n days 007 ;\n")),
            "offer 100;limit 35;share 20;yields 0 to 999;days 7;one;bid 1 10 lots 100;");
    }

    private static void spellEdges() {
        BillTender x = new BillTender();
        Doc.says("48", "i NONE how many bytes,");
        Check.due("spell -1", x.spell(-1), 56);
        x.hold(0, 5);
        Check.due("spell -1", x.spell(-1), 66);
        Doc.says("48", "0 on: the i-th;");
        Check.due("the first", x.spell(0), 'o');
        Check.due("the last", x.spell(65), ';');
        Check.due("the one ahead of it", x.spell(64), '5');
        Doc.says("48", "-2: there are not so many.");
        Check.due("one too many", x.spell(66), -2);
        Check.due("most", x.spell(MOST), -2);
        Check.due("of fewer bytes", new BillTender().spell(56), -2);
        Doc.says("48", "NONE: i below NONE.");
        Check.due("spell -2", x.spell(-2), -1);
        Check.due("least", x.spell(LEAST), -1);
    }

    /** The longest TEXT is longer than a tape, and than the calls of one object: each third of it is asked of another one. */
    private static void longest() {
        Doc.says("48", "TERMS, what HOUSES HOLD (0s left out), OWNERS that are not the HOUSE itself, BIDS as a TEXT");
        StringBuilder want = new StringBuilder("offer 2000;limit 100;share 100;yields 999 to 999;days 360;own;");
        for (int h = 0; h < 8; h++) {
            want.append("holds ").append(h).append(" 9999;");
        }
        for (int h = 0; h < 8; h++) {
            want.append("owner ").append(h).append(' ').append((h + 1) % 8).append(';');
        }
        want.append("bid 7 999 lots 1000;".repeat(30));
        Check.due("its length", want.length(), 846);
        for (int from = 0; from <= 846; from += 282) {
            BillTender x = Check.told("offer 2000;limit 100;share 100;yields 999 to 999;days 360;own;" + "bid 7 999 lots 1000;".repeat(30));
            for (int h = 0; h < 8; h++) {
                x.hold(h, 9999);
                x.own(h, (h + 1) % 8);
            }
            Check.due("how many bytes", x.spell(-1), 846);
            for (int i = from; i < from + 282; i++) {
                Check.due("byte " + i, x.spell(i), i < 846 ? want.charAt(i) : -2);
            }
        }
    }

    private static void count() {
        BillTender x = Check.told("limit 10;yields 5 to 9;owner 3 2;bid 0 4 lots 1;bid 0 10 lots 1;bid 1 5 lots 11;plain 2 lots 9;plain 3 lots 2;bid 3 6 lots 1;bid 7 6 lots 1;");
        BillTender none = new BillTender();
        BillTender thirty = Check.told("bid 0 5 lots 1;plain 1 lots 1;".repeat(15));
        Doc.says("49", "0 BIDS,");
        Check.due("seven", x.count(0), 7);
        Check.due("none", none.count(0), 0);
        Check.due("thirty", thirty.count(0), 30);
        Doc.says("49", "1 PLAIN ones,");
        Check.due("two", x.count(1), 2);
        Check.due("none", none.count(1), 0);
        Check.due("fifteen", thirty.count(1), 15);
        Doc.says("49", "2 lines of the RECORD,");
        Check.due("none", none.count(2), 0);
        Check.due("three", three().count(2), 3);
        Check.due("eight", nine().count(2), 8);
        Doc.says("49", "3 ACTS that can be undone,");
        Check.due("none", none.count(3), 0);
        Check.due("six", three().count(3), 6);
        Check.due("twelve", nine().count(3), 12);
        Doc.says("49", "4 bytes of the tape,");
        Check.due("none", none.count(4), 0);
        Check.feed(none, " ".repeat(700));
        Check.due("700", none.count(4), 700);
        none.back(700);
        Doc.says("49", "5 BIDS with WHY 1,");
        Check.due("two", x.count(5), 2);
        Check.due("none", none.count(5), 0);
        Check.due("all but PLAIN ones", Check.told("yields 6 to 7;" + "bid 0 5 lots 1;plain 1 lots 1;".repeat(15)).count(5), 15);
        Doc.says("49", "6 with WHY 2,");
        Check.due("three", x.count(6), 3);
        Check.due("none", none.count(6), 0);
        Check.due("all", Check.told("offer 1;" + "bid 0 5 lots 1;plain 1 lots 1;".repeat(15)).count(6), 30);
        Doc.says("49", "7 HOUSES that have BIDS,");
        Check.due("five", x.count(7), 5);
        Check.due("none", none.count(7), 0);
        Check.due("eight", Check.told("bid 0 5 lots 1;bid 1 5 lots 1;bid 2 5 lots 1;bid 3 5 lots 1;plain 4 lots 1;plain 5 lots 1;plain 6 lots 1;plain 7 lots 1;").count(7), 8);
        Doc.says("49", "8 OWNERS that some HOUSE has.");
        Check.due("seven", x.count(8), 7);
        Check.due("eight", none.count(8), 8);
        Check.due("one", Check.told("owner 0 7;owner 1 7;owner 2 7;owner 3 7;owner 4 7;owner 5 7;owner 6 7;").count(8), 1);
        Check.due("a ring", Check.told("owner 0 1;owner 1 2;owner 2 0;").count(8), 8);
        Doc.says("49", "NONE for others.");
        int[] others = {-1, 9, LEAST, MOST};
        for (int what : others) {
            Check.due("count " + what, x.count(what), -1);
        }
    }
}
