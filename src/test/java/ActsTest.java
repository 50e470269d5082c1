/** Promises 5 to 15: ACTS, and taking them back. */
public final class ActsTest {
    private static final int LEAST = Integer.MIN_VALUE;
    private static final int MOST = Integer.MAX_VALUE;

    public static void main(String[] args) {
        bid();
        withdraw();
        change();
        term();
        own();
        split();
        merge();
        move();
        hold();
        settle();
        settleKeepsEightLines();
        undo();
        undoOfEachAct();
        Check.finish();
    }

    /** The BIDS as they are spelled, behind the TERMS. */
    private static String bids(BillTender x) {
        String text = Check.spelled(x);
        int at = text.indexOf("one;");
        return text.substring(at + 4);
    }

    private static void bid() {
        BillTender x = new BillTender();
        Check.due("5: first", x.bid(0, 0, 1), 0);
        Check.due("5: greatest", x.bid(7, 999, 1000), 1);
        Check.due("5: PLAIN", x.bid(3, -1, 7), 2);
        Check.due("5: bids", bids(x), "bid 0 0 lots 1;bid 7 999 lots 1000;plain 3 lots 7;");
        int[][] wrong = {{-1, 1, 1}, {8, 1, 1}, {0, -2, 1}, {0, 1000, 1}, {0, 1, 0}, {0, 1, -1}, {0, 1, 1001}, {LEAST, 1, 1},
            {0, LEAST, 1}, {0, MOST, 1}, {0, 1, MOST}, {0, -1, 0}, {0, -1, 1001}};
        for (int[] w : wrong) {
            Check.due("5: bid of " + w[0] + " " + w[1] + " " + w[2], x.bid(w[0], w[1], w[2]), -1);
        }
        Check.due("5: nothing happened", x.count(0), 3);
        Check.due("5: no ACT", x.count(3), 3);
        for (int n = 3; n < 30; n++) {
            Check.due("5: bid " + n, x.bid(1, 5, 1), n);
        }
        Check.due("5: a 31st", x.bid(1, 5, 1), -1);
        Check.due("5: a 31st PLAIN one", x.bid(1, -1, 1), -1);
        Check.due("5: thirty", x.count(0), 30);
    }

    private static void withdraw() {
        BillTender x = Check.told("bid 0 1 lots 1;bid 1 2 lots 2;plain 2 lots 3;");
        Check.due("6: below", x.withdraw(-1), false);
        Check.due("6: beyond", x.withdraw(3), false);
        Check.due("6: no ACT", x.count(3), 0);
        Check.due("6: the middle one", x.withdraw(1), true);
        Check.due("6: bids", bids(x), "bid 0 1 lots 1;plain 2 lots 3;");
        Check.due("6: the last one", x.withdraw(1), true);
        Check.due("6: the first one", x.withdraw(0), true);
        Check.due("6: none left", x.withdraw(0), false);
        Check.due("6: ACTS", x.count(3), 3);
    }

    private static void change() {
        BillTender x = Check.told("bid 0 10 lots 5;plain 1 lots 6;");
        Check.due("7: lots", x.change(0, 0, 1000), 5);
        Check.due("7: lots least", x.change(0, 0, 1), 1000);
        Check.due("7: lots of a PLAIN one", x.change(1, 0, 7), 6);
        Check.due("7: yield least", x.change(0, 1, 0), 10);
        Check.due("7: yield greatest", x.change(0, 1, 999), 0);
        Check.due("7: bids", bids(x), "bid 0 999 lots 1;plain 1 lots 7;");
        int acts = x.count(3);
        int[][] wrong = {{0, 0, 1}, {0, 1, 999}, {0, 0, 0}, {0, 0, 1001}, {0, 1, -1}, {0, 1, -2}, {0, 1, 1000}, {1, 1, 5}, {1, 1, -1},
            {1, 1, -2}, {0, 2, 5}, {0, -1, 5}, {-1, 0, 5}, {2, 0, 5}, {LEAST, 0, 5}, {MOST, 1, 5}};
        for (int[] w : wrong) {
            Check.due("7: change of " + w[0] + " " + w[1] + " " + w[2], x.change(w[0], w[1], w[2]), -1);
        }
        Check.due("7: nothing happened", bids(x), "bid 0 999 lots 1;plain 1 lots 7;");
        Check.due("7: no ACT", x.count(3), acts);
    }

    private static void term() {
        int[] least = {1, 1, 0, 0, 0, 1, 0};
        int[] most = {2000, 100, 100, 999, 999, 360, 1};
        int[] first = {100, 35, 20, 0, 999, 90, 0};
        for (int what = 0; what < 7; what++) {
            BillTender x = new BillTender();
            Check.due("8: it is so " + what, x.term(what, first[what]), -1);
            Check.due("8: below " + what, x.term(what, least[what] - 1), -1);
            Check.due("8: above " + what, x.term(what, most[what] + 1), -1);
            Check.due("8: no ACT " + what, x.count(3), 0);
            int was = first[what];
            if (was != most[what]) {
                Check.due("8: most " + what, x.term(what, most[what]), was);
                was = most[what];
            }
            Check.due("8: least " + what, x.term(what, least[what]), was);
            Check.due("8: as told " + what, x.asTerm(what), least[what]);
        }
        BillTender x = new BillTender();
        Check.due("8: no such TERM", x.term(7, 1), -1);
        Check.due("8: no such TERM", x.term(-1, 1), -1);
        Check.due("8: no such TERM", x.term(LEAST, 1), -1);
        x.term(3, 300);
        Check.due("8: TO below FROM", x.term(4, 299), -1);
        Check.due("8: TO as FROM", x.term(4, 300), 999);
        Check.due("8: FROM above TO", x.term(3, 301), -1);
        Check.due("8: FROM less", x.term(3, 299), 300);
    }

    private static void own() {
        BillTender x = new BillTender();
        Check.due("9: itself already", x.own(3, 3), -1);
        Check.due("9: another", x.own(3, 5), 3);
        Check.due("9: it is so", x.own(3, 5), -1);
        Check.due("9: another again", x.own(3, 7), 5);
        Check.due("9: owner", x.house(3, 5), 7);
        int[][] wrong = {{-1, 0}, {8, 0}, {0, -1}, {0, 8}, {LEAST, MOST}};
        for (int[] w : wrong) {
            Check.due("9: own of " + w[0] + " " + w[1], x.own(w[0], w[1]), -1);
        }
        Check.due("9: ACTS", x.count(3), 2);
    }

    private static void split() {
        BillTender x = Check.told("bid 0 10 lots 5;plain 1 lots 6;bid 2 20 lots 1;");
        Check.due("10: none stay", x.split(0, 0), false);
        Check.due("10: all stay", x.split(0, 5), false);
        Check.due("10: below", x.split(0, -1), false);
        Check.due("10: most", x.split(0, MOST), false);
        Check.due("10: one LOT", x.split(2, 1), false);
        Check.due("10: no such", x.split(3, 1), false);
        Check.due("10: no such", x.split(-1, 1), false);
        Check.due("10: no ACT", x.count(3), 0);
        Check.due("10: parted", x.split(0, 4), true);
        Check.due("10: bids", bids(x), "bid 0 10 lots 4;bid 0 10 lots 1;plain 1 lots 6;bid 2 20 lots 1;");
        Check.due("10: PLAIN parted", x.split(2, 1), true);
        Check.due("10: bids", bids(x), "bid 0 10 lots 4;bid 0 10 lots 1;plain 1 lots 1;plain 1 lots 5;bid 2 20 lots 1;");
        for (int n = x.count(0); n < 30; n++) {
            x.bid(0, 1, 9);
        }
        Check.due("10: there are 30", x.split(29, 1), false);
        x.withdraw(0);
        Check.due("10: the last of 29", x.split(28, 1), true);
        Check.due("10: its rest", x.of(29, 2), 8);
    }

    private static void merge() {
        BillTender x = Check.told("bid 0 10 lots 5;plain 0 lots 6;bid 1 10 lots 7;bid 0 10 lots 8;bid 0 20 lots 9;plain 0 lots 1;"
            + "bid 0 20 lots 2;bid 0 10 lots 3;bid 0 30 lots 4;");
        Check.due("11: none of another house", x.merge(1), -1);
        Check.due("11: no BIDS", x.merge(2), -1);
        Check.due("11: no such", x.merge(8), -1);
        Check.due("11: no such", x.merge(-1), -1);
        Check.due("11: no ACT", x.count(3), 0);
        Check.due("11: went", x.merge(0), 4);
        Check.due("11: bids", bids(x), "bid 0 10 lots 16;plain 0 lots 7;bid 1 10 lots 7;bid 0 20 lots 11;bid 0 30 lots 4;");
        Check.due("11: no more", x.merge(0), -1);
        Check.due("11: undo", x.undo(), 0);
        Check.due("11: back", x.count(0), 9);
        BillTender y = Check.told("bid 0 1 lots 600;bid 0 1 lots 400;bid 1 1 lots 600;bid 1 1 lots 401;plain 2 lots 1000;plain 2 lots 1000;");
        Check.due("11: to 1,000", y.merge(0), 1);
        Check.due("11: above 1,000", y.merge(1), 1);
        Check.due("11: far above 1,000", y.merge(2), 1);
        Check.due("11: at most", bids(y), "bid 0 1 lots 1000;bid 1 1 lots 1000;plain 2 lots 1000;");
    }

    private static void move() {
        String four = "bid 0 1 lots 1;bid 1 2 lots 2;plain 2 lots 3;bid 3 4 lots 4;";
        BillTender x = Check.told(four);
        int[][] wrong = {{0, 0}, {3, 3}, {0, 4}, {4, 0}, {-1, 0}, {0, -1}, {MOST, LEAST}};
        for (int[] w : wrong) {
            Check.due("12: move of " + w[0] + " " + w[1], x.move(w[0], w[1]), false);
        }
        Check.due("12: no ACT", x.count(3), 0);
        Check.due("12: up", x.move(0, 2), true);
        Check.due("12: bids", bids(x), "bid 1 2 lots 2;plain 2 lots 3;bid 0 1 lots 1;bid 3 4 lots 4;");
        Check.due("12: down", x.move(3, 1), true);
        Check.due("12: bids", bids(x), "bid 1 2 lots 2;bid 3 4 lots 4;plain 2 lots 3;bid 0 1 lots 1;");
        x.undo();
        x.undo();
        Check.due("12: undone", bids(x), four);
        BillTender full = Check.told("bid 0 1 lots 1;".repeat(29) + "plain 7 lots 9;");
        Check.due("12: among thirty", full.move(29, 0), true);
        Check.due("12: still thirty", full.count(0), 30);
        Check.due("12: comes first", full.of(0, 2), 9);
    }

    private static void hold() {
        BillTender x = new BillTender();
        Check.due("13: it is so", x.hold(0, 0), -1);
        Check.due("13: most", x.hold(0, 9999), 0);
        Check.due("13: above", x.hold(0, 10000), -1);
        Check.due("13: below", x.hold(0, -1), -1);
        Check.due("13: again", x.hold(0, 9999), -1);
        Check.due("13: none again", x.hold(0, 0), 9999);
        Check.due("13: the last house", x.hold(7, 1), 0);
        Check.due("13: no such", x.hold(8, 1), -1);
        Check.due("13: no such", x.hold(-1, 1), -1);
        Check.due("13: held", x.house(7, 0), 1);
        Check.due("13: ACTS", x.count(3), 3);
    }

    private static void settle() {
        BillTender x = Check.told("offer 100;limit 50;share 20;days 360;own;holds 4 9;bid 0 300 lots 30;bid 1 310 lots 40;plain 2 lots 10;"
            + "bid 3 310 lots 30;plain 0 lots 15;bid 4 320 lots 50;");
        Check.due("14: sold", x.settle(), 100);
        int[] held = {42, 29, 8, 21, 9, 0, 0, 0};
        for (int h = 0; h < 8; h++) {
            Check.due("14: held by " + h, x.house(h, 0), held[h]);
        }
        Check.due("14: BIDS are gone", x.count(0), 0);
        Check.due("14: a line", x.count(2), 1);
        Check.due("14: STOP", x.record(0, 0), 310);
        Check.due("14: AVERAGE", x.record(0, 1), 306);
        Check.due("14: SOLD", x.record(0, 2), 100);
        Check.due("14: PAID", x.recordPaid(0), 96_938_000L);
        Check.due("14: no BIDS", x.settle(), -1);
        Check.due("14: no ACT", x.count(3), 1);
        Check.due("14: TERMS stay", x.asTerm(6), 1);
        BillTender y = Check.told("offer 2000;limit 100;share 0;holds 0 9998;owner 1 0;bid 1 1 lots 1;");
        Check.due("14: no ROOM, nothing SOLD", y.settle(), 0);
        Check.due("14: a line of nothing", y.record(0, 0), -2);
        BillTender z = Check.told("offer 2000;limit 100;share 0;holds 0 1999;bid 0 1 lots 5;");
        Check.due("14: one LOT", z.settle(), 1);
        Check.due("14: holds", z.house(0, 0), 2000);
    }

    private static void settleKeepsEightLines() {
        BillTender x = new BillTender();
        for (int n = 0; n < 9; n++) {
            x.bid(n % 8, 10 + n, n + 1);
            Check.due("14: settle " + n, x.settle(), n + 1);
            Check.due("14: lines", x.count(2), Math.min(8, n + 1));
        }
        for (int k = 0; k < 8; k++) {
            Check.due("14: line " + k, x.record(k, 0), 18 - k);
        }
        Check.due("14: no ninth", x.record(8, 0), -1);
        x.undo();
        Check.due("15: the oldest line is back", x.record(7, 0), 10);
        Check.due("15: the latest is gone", x.record(0, 0), 17);
        Check.due("15: the BID is back", x.of(0, 2), 9);
        Check.due("15: it holds what it held", x.house(0, 0), 1);
    }

    private static void undo() {
        BillTender x = new BillTender();
        Check.due("15: none", x.undo(), -1);
        for (int n = 0; n < 13; n++) {
            x.bid(0, n, 1);
        }
        Check.due("15: twelve", x.count(3), 12);
        for (int n = 11; n >= 0; n--) {
            Check.due("15: undo", x.undo(), n);
        }
        Check.due("15: no more", x.undo(), -1);
        Check.due("15: the first stays", x.count(0), 1);
        Check.due("15: it is the first", x.of(0, 1), 0);
        x.bid(1, 5, 5);
        x.bid(1, 6, 6);
        Check.due("15: undo the latter", x.undo(), 1);
        x.bid(1, 7, 7);
        Check.due("15: a new one behind", x.count(3), 2);
        Check.due("15: undo it", x.undo(), 1);
        Check.due("15: undo the former", x.undo(), 0);
        Check.due("15: bids", bids(x), "bid 0 0 lots 1;");
        Check.feed(x, "offer 5;");
        x.bid(1, 5, 5);
        x.undo();
        Check.due("15: the tape stays", x.count(4), 8);
    }

    private static void undoOfEachAct() {
        String told = "own;holds 1 2;owner 2 3;bid 0 10 lots 5;plain 1 lots 6;bid 0 10 lots 7;";
        for (int act = 0; act < 11; act++) {
            BillTender x = Check.told(told);
            String was = Check.state(x);
            switch (act) {
                case 0: x.bid(1, 1, 1); break;
                case 1: x.withdraw(0); break;
                case 2: x.change(0, 0, 99); break;
                case 3: x.change(0, 1, 99); break;
                case 4: x.term(6, 0); break;
                case 5: x.own(2, 4); break;
                case 6: x.split(1, 2); break;
                case 7: x.merge(0); break;
                case 8: x.move(0, 2); break;
                case 9: x.hold(1, 3); break;
                default: x.settle();
            }
            Check.due("15: ACT " + act + " changes", Check.state(x).equals(was), false);
            Check.due("15: undo of ACT " + act, x.undo(), 0);
            Check.due("15: as it was ahead of ACT " + act, Check.state(x), was);
        }
    }
}
