/** Promises 45 to 49: the RECORD, the spelling, counts. */
public final class RecordTest {
    private static final int LEAST = Integer.MIN_VALUE;
    private static final int MOST = Integer.MAX_VALUE;

    public static void main(String[] args) {
        record();
        records();
        spell();
        longestSpelling();
        spellIsRead();
        count();
        Check.finish();
    }

    /** Lines, the latest first: nothing SOLD; STOP 11 of two; STOP 4 by OWN. */
    private static BillTender three() {
        BillTender x = Check.told("offer 10;limit 100;share 0;days 360;own;bid 0 2 lots 3;bid 1 4 lots 4;");
        x.settle();
        x.term(6, 0);
        x.bid(2, 11, 2);
        x.settle();
        x.bid(3, -1, 5);
        x.settle();
        return x;
    }

    private static void record() {
        BillTender x = three();
        int[][] want = {{-2, 0, 0}, {11, 11, 2}, {4, 3, 7}};
        long[] paid = {0, 2 * 998_900L, 3 * 999_800L + 4 * 999_600L};
        for (int k = 0; k < 3; k++) {
            for (int what = 0; what < 3; what++) {
                Check.due("45: record(" + k + ", " + what + ")", x.record(k, what), want[k][what]);
            }
            Check.due("47: recordPaid(" + k + ")", x.recordPaid(k), paid[k]);
        }
        int[][] wrong = {{3, 0}, {-1, 0}, {0, 3}, {0, -1}, {LEAST, 0}, {MOST, 0}};
        for (int[] w : wrong) {
            Check.due("45: record of " + w[0] + " " + w[1], x.record(w[0], w[1]), -1);
        }
        Check.due("47: no such line", x.recordPaid(3), -1);
        Check.due("47: no such line", x.recordPaid(-1), -1);
        Check.due("45: none", new BillTender().record(0, 0), -1);
        x.term(5, 1);
        Check.due("47: as it was then", x.recordPaid(1), 2 * 998_900L);
    }

    private static void records() {
        BillTender x = three();
        int[] want = {9, 7, 11, 4, -1};
        for (int what = 0; what < 5; what++) {
            Check.due("46: records(" + what + ")", x.records(what), want[what]);
        }
        Check.due("46: others", x.records(-1), -1);
        BillTender none = new BillTender();
        int[] empty = {0, -2, -2, -2};
        for (int what = 0; what < 4; what++) {
            Check.due("46: no lines " + what, none.records(what), empty[what]);
        }
        none.bid(0, -1, 1);
        none.settle();
        int[] plain = {1, -2, -2, -2};
        for (int what = 0; what < 4; what++) {
            Check.due("46: no STOP " + what, none.records(what), plain[what]);
        }
        eightLines();
        none.bid(0, 0, 1);
        none.settle();
        int[] zero = {2, 0, 0, 0};
        for (int what = 0; what < 4; what++) {
            Check.due("46: STOP 0 " + what, none.records(what), zero[what]);
        }
    }

    private static void eightLines() {
        BillTender x = new BillTender();
        for (int n = 0; n < 10; n++) {
            x.bid(n % 8, 100 - n * n, 1 + n);
            x.settle();
        }
        // The lines of n = 2 .. 9 are kept.
        int[] want = {3 + 4 + 5 + 6 + 7 + 8 + 9 + 10, (800 - 284) / 8, 96, 19};
        for (int what = 0; what < 4; what++) {
            Check.due("46: eight lines " + what, x.records(what), want[what]);
        }
        Check.due("45: the oldest", x.record(7, 0), 96);
        Check.due("47: the oldest", x.recordPaid(7), 3L * x.price(96));
    }

    private static void spell() {
        BillTender x = new BillTender();
        x.term(0, 2000);
        x.term(6, 1);
        x.hold(7, 10);
        x.hold(2, 9999);
        x.own(0, 7);
        x.own(7, 0);
        x.bid(0, 0, 1000);
        x.bid(7, -1, 105);
        x.bid(3, 70, 1);
        String want = "offer 2000;limit 35;share 20;yields 0 to 999;days 90;own;holds 2 9999;holds 7 10;owner 0 7;owner 7 0;"
            + "bid 0 0 lots 1000;plain 7 lots 105;bid 3 70 lots 1;";
        Check.due("48: spelled", Check.spelled(x), want);
        Check.due("48: length", x.spell(-1), want.length());
        Check.due("48: last", x.spell(want.length() - 1), ';');
        Check.due("48: beyond", x.spell(want.length()), -2);
        Check.due("48: far beyond", x.spell(MOST), -2);
        Check.due("48: below", x.spell(-2), -1);
        Check.due("48: far below", x.spell(LEAST), -1);
    }

    private static void longestSpelling() {
        BillTender x = Check.told("offer 2000;limit 100;share 100;yields 999 to 999;days 360;" + "bid 7 999 lots 1000;".repeat(30));
        for (int h = 0; h < 8; h++) {
            x.hold(h, 9999);
            x.own(h, (h + 1) % 8);
        }
        Check.due("48: the longest", x.spell(-1), 62 + 8 * 13 + 8 * 10 + 600);
        Check.due("48: its last", x.spell(845), ';');
        Check.due("48: its last digit", x.spell(844), '0');
        Check.due("48: beyond it", x.spell(846), -2);
    }

    private static void spellIsRead() {
        BillTender x = Check.told(AskedTest.SIX + "holds 1 7;owner 4 2;own;yields 3 to 500;");
        String text = Check.spelled(x);
        Check.due("48: a TEXT", Check.spelled(Check.told(text)), text);
    }

    private static void count() {
        BillTender x = Check.told("offer 100;limit 10;yields 5 to 9;owner 3 2;bid 0 4 lots 1;bid 0 10 lots 1;bid 1 5 lots 11;plain 2 lots 9;"
            + "plain 3 lots 2;bid 3 6 lots 1;bid 7 6 lots 1;");
        Check.feed(x, "one;");
        x.own(5, 2);
        int[] want = {7, 2, 0, 1, 4, 2, 3, 5, 6, -1};
        for (int what = 0; what < want.length; what++) {
            Check.due("49: count " + what, x.count(what), want[what]);
        }
        Check.due("49: others", x.count(-1), -1);
        Check.due("49: others", x.count(LEAST), -1);
        x.move(0, 6);
        Check.due("49: WHY 1 still", x.count(5), 2);
        x.withdraw(6);
        Check.due("49: one fewer with WHY 1", x.count(5), 1);
        x.settle();
        Check.due("49: lines", x.count(2), 1);
        Check.due("49: no BIDS", x.count(0), 0);
    }
}
