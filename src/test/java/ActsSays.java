/** Promises 5 to 15, sentence by sentence; a refused ACT must leave all as it was, and is none that can be undone. */
final class ActsSays {
    private static final int LEAST = Integer.MIN_VALUE;
    private static final int MOST = Integer.MAX_VALUE;
    private static final String FOUR = "bid 0 10 lots 5;plain 1 lots 6;bid 2 20 lots 7;bid 0 10 lots 8;";

    private ActsSays() {
    }

    static void run() {
        bid();
        withdraw();
        change();
        term();
        own();
        split();
        merge();
        move();
        hold();
        settle();
        undo();
        undoOfEach();
    }

    /** HOUSE, YIELD, LOTS of each BID. */
    private static String bids(BillTender x) {
        StringBuilder all = new StringBuilder();
        for (int i = 0; i < x.count(0); i++) {
            all.append(x.of(i, 0)).append('/').append(x.of(i, 1)).append('/').append(x.of(i, 2)).append(' ');
        }
        return all.toString().trim();
    }

    private static BillTender thirty() {
        return Check.told("bid 0 5 lots 2;".repeat(30));
    }

    private static void bid() {
        Doc.says("5", "A BID with a YIELD (NONE: PLAIN) comes: its number;");
        BillTender x = new BillTender();
        Check.due("first", x.bid(0, 0, 1), 0);
        Check.due("second", x.bid(7, 999, 1000), 1);
        Check.due("third, PLAIN", x.bid(3, -1, 7), 2);
        Check.due("BIDS", bids(x), "0/0/1 7/999/1000 3/-2/7");
        Check.due("ACTS", x.count(3), 3);
        Doc.says("5", "NONE, and nothing happens: out of bounds,");
        String was = Check.state(x);
        int[][] wrong = {{-1, 1, 1}, {8, 1, 1}, {0, -2, 1}, {0, 1000, 1}, {0, 1, 0}, {0, 1, 1001}, {0, 1, -1}, {0, -1, 0}, {0, -1, 1001},
            {LEAST, 1, 1}, {MOST, 1, 1}, {0, LEAST, 1}, {0, MOST, 1}, {0, 1, LEAST}, {0, 1, MOST}};
        for (int[] w : wrong) {
            Check.due("bid " + w[0] + " " + w[1] + " " + w[2], x.bid(w[0], w[1], w[2]), -1);
        }
        Check.due("nothing happens", Check.state(x), was);
        Doc.says("5", "there are 30.");
        BillTender y = thirty();
        was = Check.state(y);
        Check.due("a 31st", y.bid(0, 5, 2), -1);
        Check.due("a 31st, PLAIN", y.bid(0, -1, 2), -1);
        Check.due("nothing happens", Check.state(y), was);
        y.withdraw(0);
        Check.due("a 30th", y.bid(0, 5, 2), 29);
    }

    private static void withdraw() {
        Doc.says("6", "A BID goes (numbers above it are one less): true;");
        BillTender x = Check.told(FOUR);
        Check.due("one in the middle", x.withdraw(1), true);
        Check.due("BIDS", bids(x), "0/10/5 2/20/7 0/10/8");
        Check.due("the last", x.withdraw(2), true);
        Check.due("BIDS", bids(x), "0/10/5 2/20/7");
        Check.due("the first", x.withdraw(0), true);
        Check.due("BIDS", bids(x), "2/20/7");
        Check.due("the only one", x.withdraw(0), true);
        Check.due("BIDS", bids(x), "");
        BillTender y = thirty();
        Check.due("the last of thirty", y.withdraw(29), true);
        Check.due("BIDS", y.count(0), 29);
        withdrawnCountsNoMore();
        Doc.says("6", "false: there is none such.");
        Check.due("of none", x.withdraw(0), false);
        BillTender z = Check.told(FOUR);
        String was = Check.state(z);
        int[] wrong = {-1, 4, 30, LEAST, MOST};
        for (int w : wrong) {
            Check.due("withdraw " + w, z.withdraw(w), false);
        }
        Check.due("nothing happens", Check.state(z), was);
        Check.due("a 31st", thirty().withdraw(30), false);
    }

    private static void withdrawnCountsNoMore() {
        BillTender x = Check.told("limit 100;share 50;bid 0 5 lots 4;plain 1 lots 3;bid 2 6 lots 2;bid 3 6 lots 1;");
        Check.due("SOLD", x.result(3), 10);
        x.withdraw(3);
        Check.row("HOUSE 3", what -> x.house(3, what), 0, 100, 0, 0, 0);
        Check.due("PAYS of HOUSE 3", x.housePays(3), 0);
        Check.due("HOUSES with BIDS", x.count(7), 3);
        Check.due("BIDS at STOP", x.result(9), 1);
        Check.due("ADMITTED", x.upTo(999), 6);
        Check.due("SOLD at STOP", x.step(1, 3), 2);
        x.withdraw(2);
        Check.row("result", x::result, 5, 5, 0, 7, 3, 50, 97, 4, 7, 1, 0, 93);
        Check.due("PAY", x.paid(), 7L * x.price(5));
        x.withdraw(1);
        Check.due("PLAIN ones", x.count(1), 0);
        Check.due("SOLD to PLAIN ones", x.result(4), 0);
    }

    private static void change() {
        Doc.says("7", "A BID is of other LOTS (what 0),");
        BillTender x = Check.told(FOUR);
        Check.due("change", x.change(3, 0, 1000), 8);
        Check.due("change of a PLAIN one", x.change(1, 0, 1), 6);
        Check.due("BIDS", bids(x), "0/10/5 1/-2/1 2/20/7 0/10/1000");
        Doc.says("7", "of another YIELD (1; a PLAIN one not):");
        Check.due("change", x.change(0, 1, 999), 10);
        Check.due("change", x.change(2, 1, 0), 20);
        Check.due("change of a PLAIN one", x.change(1, 1, 5), -1);
        Check.due("change of a PLAIN one to PLAIN", x.change(1, 1, -1), -1);
        Check.due("BIDS", bids(x), "0/999/5 1/-2/1 2/0/7 0/10/1000");
        Doc.says("7", "which it was;");
        Check.due("LOTS", x.change(0, 0, 6), 5);
        Check.due("LOTS", x.change(0, 0, 5), 6);
        Check.due("YIELD 0", x.change(2, 1, 7), 0);
        Check.due("YIELD 7", x.change(2, 1, 0), 7);
        Doc.says("7", "NONE: no such ones,");
        String was = Check.state(x);
        int[][] wrong = {{4, 0, 9}, {4, 1, 9}, {-1, 0, 9}, {0, 2, 9}, {0, -1, 9}, {LEAST, 0, 9}, {MOST, 1, 9}, {0, LEAST, 9}, {0, MOST, 9}};
        for (int[] w : wrong) {
            Check.due("change " + w[0] + " " + w[1] + " " + w[2], x.change(w[0], w[1], w[2]), -1);
        }
        Check.due("change of none", new BillTender().change(0, 0, 9), -1);
        Check.due("nothing happens", Check.state(x), was);
        Doc.says("7", "out of bounds,");
        int[][] out = {{0, 0, 0}, {0, 0, 1001}, {0, 0, -1}, {1, 0, 0}, {1, 0, 1001}, {0, 1, -1}, {0, 1, -2}, {0, 1, 1000}, {0, 0, MOST}, {0, 1, LEAST}};
        for (int[] w : out) {
            Check.due("change " + w[0] + " " + w[1] + " " + w[2], x.change(w[0], w[1], w[2]), -1);
        }
        Check.due("nothing happens", Check.state(x), was);
        Doc.says("7", "it is so.");
        int[][] so = {{0, 0, 5}, {1, 0, 1}, {0, 1, 999}, {2, 1, 0}};
        for (int[] w : so) {
            Check.due("change " + w[0] + " " + w[1] + " " + w[2], x.change(w[0], w[1], w[2]), -1);
        }
        Check.due("nothing happens", Check.state(x), was);
    }

    private static void term() {
        int[] first = {100, 35, 20, 0, 999, 90, 0};
        int[] other = {2000, 100, 0, 999, 0, 360, 1};
        Doc.says("8", "A TERM: 0 OFFER, 1 LIMIT, 2 SHARE, 3 FROM, 4 TO, 5 DAYS, 6 METHOD is another one:");
        for (int what = 0; what < 7; what++) {
            BillTender x = new BillTender();
            x.term(what, other[what]);
            for (int w = 0; w < 7; w++) {
                Check.due("asTerm " + w + " behind term " + what, x.asTerm(w), w == what ? other[w] : first[w]);
            }
        }
        Doc.says("8", "which it was;");
        for (int what = 0; what < 7; what++) {
            BillTender x = new BillTender();
            Check.due("term " + what, x.term(what, other[what]), first[what]);
            Check.due("term " + what + " back", x.term(what, first[what]), other[what]);
            Check.due("ACTS", x.count(3), 2);
        }
        Doc.says("8", "NONE: out of bounds");
        BillTender y = Check.told("yields 5 to 9;bid 0 5 lots 3;");
        String was = Check.state(y);
        int[][] wrong = {{0, 0}, {0, 2001}, {1, 0}, {1, 101}, {2, -1}, {2, 101}, {3, -1}, {4, 1000}, {5, 0}, {5, 361}, {6, -1}, {6, 2}, {7, 1},
            {-1, 1}, {LEAST, 1}, {MOST, 1}, {0, LEAST}, {0, MOST}, {6, MOST}};
        for (int[] w : wrong) {
            Check.due("term " + w[0] + " " + w[1], y.term(w[0], w[1]), -1);
        }
        Check.due("nothing happens", Check.state(y), was);
        Doc.says("8", "(FROM above TO, too),");
        Check.due("FROM above TO", y.term(3, 10), -1);
        Check.due("TO below FROM", y.term(4, 4), -1);
        Check.due("nothing happens", Check.state(y), was);
        Check.due("FROM as TO", y.term(3, 9), 5);
        Check.due("TO below it", y.term(4, 8), -1);
        Doc.says("8", "it is so.");
        BillTender z = new BillTender();
        was = Check.state(z);
        for (int what = 0; what < 7; what++) {
            Check.due("term " + what, z.term(what, first[what]), -1);
        }
        Check.due("nothing happens", Check.state(z), was);
    }

    private static void own() {
        Doc.says("9", "A HOUSE has another OWNER: which it was;");
        BillTender x = new BillTender();
        Check.due("own", x.own(3, 7), 3);
        Check.due("own", x.own(3, 0), 7);
        Check.due("own", x.own(0, 3), 0);
        Check.row("OWNER", h -> x.house(h, 5), 3, 1, 2, 0, 4, 5, 6, 7);
        Check.due("back to itself", x.own(3, 3), 0);
        Check.due("ACTS", x.count(3), 4);
        Doc.says("9", "NONE: no such HOUSES,");
        String was = Check.state(x);
        int[][] wrong = {{-1, 0}, {8, 0}, {0, -1}, {0, 8}, {8, 8}, {-1, -1}, {LEAST, 0}, {MOST, 0}, {0, LEAST}, {0, MOST}};
        for (int[] w : wrong) {
            Check.due("own " + w[0] + " " + w[1], x.own(w[0], w[1]), -1);
        }
        Check.due("nothing happens", Check.state(x), was);
        Doc.says("9", "it is so.");
        Check.due("another already", x.own(0, 3), -1);
        Check.due("itself already", x.own(7, 7), -1);
        Check.due("nothing happens", Check.state(x), was);
    }

    private static void split() {
        Doc.says("10", "A BID is parted: so many LOTS (1 on, fewer than it has) stay,");
        BillTender x = Check.told(FOUR);
        Check.due("1 stays", x.split(0, 1), true);
        Check.due("LOTS", x.of(0, 2), 1);
        Check.due("all but one stay", x.split(4, 7), true);
        Check.due("LOTS", x.of(4, 2), 7);
        Check.due("of two LOTS", Check.told("plain 0 lots 2;").split(0, 1), true);
        Doc.says("10", "the others are a BID of the same HOUSE and YIELD directly behind it (numbers above are one more): true;");
        Check.due("BIDS", bids(x), "0/10/1 0/10/4 1/-2/6 2/20/7 0/10/7 0/10/1");
        Check.due("a PLAIN one", x.split(2, 2), true);
        Check.due("BIDS", bids(x), "0/10/1 0/10/4 1/-2/2 1/-2/4 2/20/7 0/10/7 0/10/1");
        BillTender y = thirty();
        y.withdraw(29);
        Check.due("of 29 the last", y.split(28, 1), true);
        Check.due("the 30th", y.of(29, 2), 1);
        Doc.says("10", "false, and nothing happens: no such ones,");
        BillTender z = Check.told(FOUR + "bid 0 5 lots 1;");
        String was = Check.state(z);
        int[][] wrong = {{0, 0}, {0, 5}, {0, 6}, {0, -1}, {1, 6}, {1, 0}, {4, 1}, {4, 0}, {5, 1}, {-1, 1}, {LEAST, 1}, {MOST, 1}, {0, LEAST}, {0, MOST}};
        for (int[] w : wrong) {
            Check.due("split " + w[0] + " " + w[1], z.split(w[0], w[1]), false);
        }
        Check.due("nothing happens", Check.state(z), was);
        Doc.says("10", "there are 30.");
        BillTender w = thirty();
        was = Check.state(w);
        Check.due("the first", w.split(0, 1), false);
        Check.due("the last", w.split(29, 1), false);
        Check.due("nothing happens", Check.state(w), was);
    }

    private static void merge() {
        String ten = FOUR + "bid 2 10 lots 1;bid 0 20 lots 9;plain 1 lots 1;bid 0 10 lots 2;bid 0 30 lots 3;bid 0 20 lots 4;";
        Doc.says("11", "All BIDS of a HOUSE of one YIELD (PLAIN ones, too) become one each, in place of the first");
        BillTender x = Check.told(ten);
        x.merge(0);
        Check.due("BIDS", bids(x), "0/10/15 1/-2/6 2/20/7 2/10/1 0/20/13 1/-2/1 0/30/3");
        x.merge(1);
        Check.due("BIDS", bids(x), "0/10/15 1/-2/7 2/20/7 2/10/1 0/20/13 0/30/3");
        BillTender zero = Check.told("bid 0 0 lots 1;plain 0 lots 2;bid 0 0 lots 3;plain 0 lots 4;");
        zero.merge(0);
        Check.due("YIELD 0 and PLAIN ones aren't alike", bids(zero), "0/0/4 0/-2/6");
        Doc.says("11", "(1,000 LOTS at most):");
        BillTender y = Check.told("bid 0 1 lots 600;bid 0 1 lots 400;bid 1 1 lots 600;bid 1 1 lots 401;plain 2 lots 1000;plain 2 lots 1000;plain 2 lots 1;");
        Check.due("1,000", y.merge(0), 1);
        Check.due("1,001", y.merge(1), 1);
        Check.due("2,001", y.merge(2), 2);
        Check.due("BIDS", bids(y), "0/1/1000 1/1/1000 2/-2/1000");
        Doc.says("11", "how many BIDS went;");
        BillTender z = Check.told(ten);
        Check.due("of HOUSE 0", z.merge(0), 3);
        Check.due("of HOUSE 1", z.merge(1), 1);
        Check.due("ACTS", z.count(3), 2);
        BillTender all = thirty();
        Check.due("of thirty", all.merge(0), 29);
        Check.due("BIDS", bids(all), "0/5/60");
        Doc.says("11", "NONE, and nothing happens: no such HOUSE,");
        BillTender w = Check.told(ten);
        String was = Check.state(w);
        int[] wrong = {-1, 8, LEAST, MOST};
        for (int h : wrong) {
            Check.due("merge " + h, w.merge(h), -1);
        }
        Check.due("nothing happens", Check.state(w), was);
        Doc.says("11", "none went.");
        Check.due("two YIELDS", w.merge(2), -1);
        Check.due("no BIDS", w.merge(7), -1);
        Check.due("nothing happens", Check.state(w), was);
        Check.due("of none", new BillTender().merge(0), -1);
    }

    private static void move() {
        Doc.says("12", "A BID comes to another place among BIDS: true;");
        BillTender x = Check.told(FOUR);
        Check.due("to the end", x.move(0, 3), true);
        Check.due("BIDS", bids(x), "1/-2/6 2/20/7 0/10/8 0/10/5");
        Check.due("to the start", x.move(2, 0), true);
        Check.due("BIDS", bids(x), "0/10/8 1/-2/6 2/20/7 0/10/5");
        Check.due("by one", x.move(1, 2), true);
        Check.due("BIDS", bids(x), "0/10/8 2/20/7 1/-2/6 0/10/5");
        BillTender y = Check.told("plain 7 lots 9;" + "bid 0 5 lots 2;".repeat(29));
        Check.due("the first of thirty to the end", y.move(0, 29), true);
        Check.due("LOTS of the last", y.of(29, 2), 9);
        Check.due("LOTS of the first", y.of(0, 2), 2);
        Check.due("back", y.move(29, 0), true);
        Check.due("LOTS of the first", y.of(0, 2), 9);
        Check.due("BIDS", y.count(0), 30);
        Doc.says("12", "false: no such ones,");
        String was = Check.state(x);
        int[][] wrong = {{4, 0}, {0, 4}, {-1, 0}, {0, -1}, {4, 4}, {LEAST, 0}, {MOST, 0}, {0, LEAST}, {0, MOST}};
        for (int[] w : wrong) {
            Check.due("move " + w[0] + " " + w[1], x.move(w[0], w[1]), false);
        }
        Check.due("move of none", new BillTender().move(0, 0), false);
        Check.due("nothing happens", Check.state(x), was);
        Doc.says("12", "it is that.");
        Check.due("move 0 0", x.move(0, 0), false);
        Check.due("move 3 3", x.move(3, 3), false);
        Check.due("nothing happens", Check.state(x), was);
    }

    private static void hold() {
        Doc.says("13", "What a HOUSE HOLDS is another number: which it was;");
        BillTender x = new BillTender();
        Check.due("hold", x.hold(0, 9999), 0);
        Check.due("hold", x.hold(0, 1), 9999);
        Check.due("hold", x.hold(7, 5), 0);
        Check.row("HOLDS", h -> x.house(h, 0), 1, 0, 0, 0, 0, 0, 0, 5);
        Check.due("hold", x.hold(0, 0), 1);
        Check.due("ACTS", x.count(3), 4);
        Doc.says("13", "NONE: out of bounds,");
        String was = Check.state(x);
        int[][] wrong = {{0, -1}, {0, 10000}, {-1, 1}, {8, 1}, {LEAST, 1}, {MOST, 1}, {0, LEAST}, {0, MOST}};
        for (int[] w : wrong) {
            Check.due("hold " + w[0] + " " + w[1], x.hold(w[0], w[1]), -1);
        }
        Check.due("nothing happens", Check.state(x), was);
        Doc.says("13", "it is so.");
        Check.due("hold", x.hold(0, 0), -1);
        Check.due("hold", x.hold(7, 5), -1);
        Check.due("nothing happens", Check.state(x), was);
    }

    private static void settle() {
        Doc.says("14", "SETTLED: how many LOTS are SOLD;");
        BillTender x = Check.told("offer 10;limit 100;share 30;plain 0 lots 2;bid 1 5 lots 4;");
        Check.due("settle", x.settle(), 6);
        Check.due("HOLDS", x.house(1, 0), 4);
        Check.due("lines", x.count(2), 1);
        Check.due("BIDS", x.count(0), 0);
        Check.due("ACTS", x.count(3), 1);
        x.bid(0, 3, 100);
        Check.due("by ROOM", x.settle(), 8);
        x.hold(5, 9999);
        x.bid(5, 3, 100);
        Check.due("nothing is SOLD, and it is a line", x.settle(), 0);
        Check.due("lines", x.count(2), 3);
        Check.due("OFFER in full", Check.told("offer 2000;limit 100;bid 0 3 lots 1000;bid 1 3 lots 1000;bid 2 3 lots 1;").settle(), 2000);
        Doc.says("14", "NONE, and nothing happens: there are no BIDS.");
        String was = Check.state(x);
        Check.due("settle", x.settle(), -1);
        Check.due("nothing happens", Check.state(x), was);
        Check.due("settle of a new object", new BillTender().settle(), -1);
    }

    private static void undo() {
        Doc.says("15", "The latest ACT is taken back (with the RECORD): how many more can be;");
        BillTender x = Check.told("bid 0 5 lots 3;");
        x.settle();
        x.bid(1, 6, 4);
        x.settle();
        String ahead = Check.state(x);
        x.bid(2, 7, 5);
        x.settle();
        Check.due("lines", x.count(2), 3);
        Check.due("undo", x.undo(), 4);
        Check.due("lines", x.count(2), 2);
        Check.due("the latest line", x.record(0, 0), 6);
        Check.due("the BID is back", x.of(0, 2), 5);
        Check.due("HOLDS", x.house(2, 0), 0);
        Check.due("undo", x.undo(), 3);
        Check.due("as it was", Check.state(x), ahead);
        // A ninth line pushed the first out; undo brings it back.
        BillTender y = new BillTender();
        for (int n = 1; n <= 9; n++) {
            y.bid(n % 8, n, n);
            y.settle();
        }
        Check.due("the oldest line", y.record(7, 0), 2);
        Check.due("undo", y.undo(), 11);
        Check.due("the oldest line is back", y.record(7, 0), 1);
        Check.due("what it PAID", y.recordPaid(7), y.price(1));
        // undo leaves the tape, and an ACT behind it takes the place of the one that was taken back.
        Check.feed(y, "xyz");
        Check.due("undo", y.undo(), 10);
        Check.due("the tape stays", y.count(4), 3);
        y.hold(7, 77);
        Check.due("can be undone", y.count(3), 11);
        Check.due("undo", y.undo(), 10);
        Check.due("HOLDS", y.house(7, 0), 7);
        Doc.says("15", "NONE: none can.");
        BillTender z = new BillTender();
        Check.due("undo of none", z.undo(), -1);
        z.hold(0, 5);
        Check.due("undo", z.undo(), 0);
        String was = Check.state(z);
        Check.due("no more", z.undo(), -1);
        Check.due("nothing happens", Check.state(z), was);
        // A refused ACT is none.
        z.hold(0, 0);
        z.bid(8, 0, 1);
        z.settle();
        Check.due("refused ones", z.undo(), -1);
    }

    private static void undoOfEach() {
        Doc.says("15", "The latest ACT is taken back");
        for (int act = 0; act < 11; act++) {
            BillTender x = Check.told("holds 1 2;owner 2 3;" + FOUR);
            x.term(5, 80);
            String was = Check.state(x);
            act(x, act);
            Check.due("ACT " + act + " changes all", Check.state(x).equals(was), false);
            Check.due("ACTS behind ACT " + act, x.count(3), 2);
            Check.due("undo of ACT " + act, x.undo(), 1);
            Check.due("as it was ahead of ACT " + act, Check.state(x), was);
        }
    }

    private static void act(BillTender x, int act) {
        switch (act) {
            case 0: x.bid(1, 1, 1); break;
            case 1: x.withdraw(0); break;
            case 2: x.change(0, 0, 99); break;
            case 3: x.change(0, 1, 99); break;
            case 4: x.term(6, 1); break;
            case 5: x.own(2, 4); break;
            case 6: x.split(1, 2); break;
            case 7: x.merge(0); break;
            case 8: x.move(0, 2); break;
            case 9: x.hold(1, 3); break;
            default: x.settle();
        }
    }
}
