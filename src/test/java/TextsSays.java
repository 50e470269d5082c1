/** Part I of the document, the TEXT (promise 4, beside it 48): each form, each gap, each FAULT. */
final class TextsSays {
    private TextsSays() {
    }

    static void run() {
        forms();
        whatNumbersAre();
        latest();
        words();
        numbers();
        gaps();
        faults();
    }

    private static void forms() {
        Doc.says("I", "A TEXT: { offer N ; |");
        Check.read("", " ");
        form("offer", "7", ";");
        Doc.says("I", "limit N ; |");
        form("limit", "7", ";");
        Doc.says("I", "share N ; |");
        form("share", "7", ";");
        Doc.says("I", "yields N to N ; |");
        form("yields", "3", "to", "7", ";");
        Doc.says("I", "days N ; |");
        form("days", "7", ";");
        Doc.says("I", "one ; |");
        form("one", ";");
        Doc.says("I", "own ; |");
        form("own", ";");
        Doc.says("I", "holds N N ; |");
        form("holds", "3", "7", ";");
        Doc.says("I", "owner N N ; |");
        form("owner", "3", "7", ";");
        Doc.says("I", "bid N N lots N ; |");
        form("bid", "3", "7", "lots", "2", ";");
        Doc.says("I", "plain N lots N ; }:");
        form("plain", "3", "lots", "2", ";");
    }

    /** It is read whole; cut behind each piece it ends too early; with another sign, WORD or N for a piece the FAULT is there. */
    private static void form(String... pieces) {
        String whole = String.join(" ", pieces);
        Check.read(whole, whole + whole, "one;" + whole + " one;");
        String ahead = "";
        for (String piece : pieces) {
            Check.fault(ahead, ahead.isEmpty() ? -1 : ahead.length());
            Check.fault("one;" + ahead, ahead.isEmpty() ? -1 : 4 + ahead.length());
            Check.fault(ahead + "? ;", ahead.length());
            if (!Character.isDigit(piece.charAt(0))) {
                Check.fault(ahead + "12 ;", ahead.length());
            }
            Check.fault(ahead + "nine ;", ahead.length());
            if (!piece.equals(";")) {
                Check.fault(ahead + ";", ahead.length());
            }
            ahead += piece + " ";
        }
        Check.fault(whole + ";", whole.length());
    }

    private static void whatNumbersAre() {
        Doc.says("I", "holds: a HOUSE, LOTS;");
        BillTender x = Check.told("holds 2 5;");
        Check.row("HOLDS", h -> x.house(h, 0), 0, 0, 5, 0, 0, 0, 0, 0);
        Doc.says("I", "owner: a HOUSE, its OWNER;");
        BillTender y = Check.told("owner 2 5;");
        Check.row("OWNER", h -> y.house(h, 5), 0, 1, 5, 3, 4, 5, 6, 7);
        Doc.says("I", "bid: a HOUSE, a YIELD;");
        BillTender z = Check.told("bid 2 5 lots 9;");
        Check.row("BID", what -> z.of(0, what), 2, 5, 9);
        Doc.says("I", "plain: a HOUSE.");
        BillTender w = Check.told("plain 2 lots 9;");
        Check.row("BID", what -> w.of(0, what), 2, -2, 9);
    }

    private static void latest() {
        Doc.says("I", "The latest holds for all TERMS, HOLDS, OWNERS;");
        BillTender x = Check.told("offer 1;offer 2;limit 3;limit 4;share 5;share 6;yields 800 to 900;yields 7 to 8;days 9;days 10;one;own;"
            + "holds 1 5;holds 2 6;holds 1 4;holds 2 0;owner 1 3;owner 2 3;owner 1 4;owner 2 2;");
        Check.row("TERM", x::asTerm, 2, 4, 6, 7, 8, 10, 1);
        Check.row("HOLDS", h -> x.house(h, 0), 0, 4, 0, 0, 0, 0, 0, 0);
        Check.row("OWNER", h -> x.house(h, 5), 0, 4, 2, 3, 4, 5, 6, 7);
        BillTender y = Check.told("own;bid 0 5 lots 1;yields 7 to 8;one;yields 800 to 900;");
        Check.row("TERM", y::asTerm, 100, 35, 20, 800, 900, 90, 0);
        Doc.says("I", "BIDS as they stand.");
        BillTender z = Check.told("bid 0 5 lots 1;plain 0 lots 1;offer 50;bid 0 5 lots 1;bid 0 4 lots 2;");
        Check.row("YIELD", i -> z.of(i, 1), 5, -2, 5, 4, -1);
        // Those that were ahead of the TEXT are gone, and a BID ahead of its bounds is kept.
        Check.due("told anew", Check.tell(z, "bid 1 900 lots 3;yields 5 to 6;"), 1);
        Check.row("YIELD", i -> z.of(i, 1), 900, -1);
        Check.due("WHY", z.of(0, 4), 1);
    }

    private static void words() {
        Doc.says("I", "WORDS are small letters as far as they go on,");
        Check.fault("offers 7;", 0);
        Check.fault("offe 7;", 0);
        Check.fault("oneown;", 0);
        Check.fault("owne 1 2;", 0);
        Check.fault("ownerr 1 2;", 0);
        Check.fault("Offer 7;", 0);
        Check.fault("oFFER 7;", 0);
        Check.fault("offeR 7;", 0);
        Check.fault("yields 3 tox 7;", 9);
        Check.fault("yields 3 t 7;", 9);
        Check.fault("bid 0 5 lotslots 7;", 8);
        Check.fault("bid 0 5 lot 7;", 8);
        Check.fault("onez;", 0);
        Check.fault("zone;", 0);
        Check.fault("aone;", 0);
        Check.fault("xffer 7;", 0);
        Check.fault("`ne;", 0);
        Check.fault("{ne;", 0);
        // Other signs end a WORD: it stands, and they can't.
        for (char sign : new char[] {'A', 'N', 'Z', '[', '_', '`', '{', '-', '/', ':', 0, 9, 127, 128, 225, 255}) {
            Check.fault("one" + sign + ";", 3);
            Check.fault("offer" + sign + " 7;", 5);
            Check.fault("yields 3 to" + sign + " 7;", 11);
            Check.fault("bid 0 5 lots" + sign + "7;", 12);
            Check.fault("offer 7" + sign + ";", 7);
        }
    }

    private static void numbers() {
        Doc.says("I", "N digits as far as they go on (1 to 5, 0s ahead, too).");
        BillTender x = Check.told("offer 00007;limit 09;days 010;holds 00003 09999;bid 00001 00999 lots 01000;yields 000 to 0999;");
        Check.due("OFFER", x.asTerm(0), 7);
        Check.due("LIMIT", x.asTerm(1), 9);
        Check.due("DAYS", x.asTerm(5), 10);
        Check.due("HOLDS", x.house(3, 0), 9999);
        Check.row("BID", what -> x.of(0, what), 1, 999, 1000);
        Check.fault("offer ;", 6);
        Check.fault("offer /;", 6);
        Check.fault("offer :;", 6);
        Check.fault("offer 1/;", 7);
        Check.fault("offer 1:;", 7);
        Check.fault("offer +7;", 6);
        Check.fault("offer -7;", 6);
        Check.fault("holds 33;", 6);
    }

    private static void gaps() {
        Doc.says("I", "Blanks (32), line ends (10) where one likes;");
        Check.read("\n\n  offer\n \n7\n ; \n", "bid\n0\n5\nlots\n1\n;\nplain 0 lots 1 ;one ; own;  ", "\n", "one;own;one;", "offer 7;limit 7;");
        Check.fault("offer\t7;", 5);
        Check.fault("offer 7\r\n;", 7);
        Check.fault("one;\t", 4);
        Check.fault((char) 160 + "one;", 0);
        Check.fault("one;" + (char) 11, 4);
        Check.fault("one;" + (char) 31, 4);
        Check.fault("one;" + (char) 33, 4);
        Check.fault("of fer 7;", 0);
        Check.fault("offer 1 0;", 8);
        Doc.says("I", "one at least between two WORDS, or N, or a WORD and N (else the second one can't stand there).");
        Check.fault("offer7;", 5);
        Check.fault("yields3 to 7;", 6);
        Check.fault("yields 3to 7;", 8);
        Check.fault("yields 3 to7;", 11);
        Check.fault("holds3 7;", 5);
        Check.fault("owner3 7;", 5);
        Check.fault("bid3 7 lots 2;", 3);
        Check.fault("bid 3 7lots 2;", 7);
        Check.fault("bid 3 7 lots2;", 12);
        Check.fault("plain3 lots 2;", 5);
        Check.fault("plain 3lots 2;", 7);
        Check.fault("plain 3 lots2;", 12);
        Check.fault("days7;", 4);
        Check.fault("limit7;", 5);
        Check.fault("share7;", 5);
        Check.fault("one7;", 3);
        // Two WORDS, two N without a blank are one: not one that can stand there, or one N too few.
        Check.fault("oneone;", 0);
        Check.fault("holds 37;", 6);
        Check.fault("holds 03;", 8);
    }

    private static void faults() {
        Doc.says("I", "FAULT: the first byte that can't stand there");
        Check.fault("x;offer 0;", 0);
        Check.fault("one;;own;?", 4);
        Check.fault("one;" + (char) 0, 4);
        Check.fault("one;" + (char) 255, 4);
        Check.fault("one" + (char) 187, 3);
        Check.fault("one;;", 4);
        Check.fault(";", 0);
        Check.fault("7;", 0);
        Check.fault("one,", 3);
        Check.fault("offer 7 7;", 8);
        Check.fault("plain 0 5 lots 7;", 8);
        Check.fault("bid 0 lots 7;", 6);
        Check.fault("to;", 0);
        Check.fault("lots 7;", 0);
        Doc.says("I", "(of a WORD, N its first one:");
        Check.fault("one; offex 7;", 5);
        Check.fault("yields 7 ta 9;", 9);
        Check.fault("offer 7 limit 9;", 8);
        Check.fault("one; off", 5);
        Check.fault("offer 7 77", 8);
        Doc.says("I", "also an N out of bounds,");
        Check.fault("one;offer 2001", 10);
        Check.fault("one;offer 02001;", 10);
        Check.fault("days 99999;", 5);
        Check.fault("yields 998 to 00997;", 14);
        Check.fault("holds 1 9999;holds 1 10000;", 21);
        Check.fault("bid 0 5 lots 99999;", 13);
        Doc.says("I", "of more digits,");
        Check.fault("offer 000007;", 6);
        Check.fault("bid 0 000000 lots 7;", 6);
        Check.fault("bid 0 5 lots 000001;", 13);
        Check.fault("plain 000000 lots 7;", 6);
        Check.fault("share 4294967296;", 6);
        Check.fault("share 18446744073709551616;", 6);
        Check.fault("share 000000000000000000000000000000000005;", 6);
        Doc.says("I", "a 31st BID at its WORD;");
        String thirty = "bid 0 1 lots 1;".repeat(29) + "plain 0 lots 1;";
        Check.fault(thirty, -1);
        Check.fault(thirty + "own;holds 1 1;", -1);
        Check.fault(thirty + "bid 0 1 lots 1;", 450);
        Check.fault(thirty + "one;\n plain 9", 456);
        Check.fault(thirty + "bid", 450);
        Check.fault(thirty + "plain?", 450);
        Doc.says("I", "the TEXT's length, if it ends too early).");
        Check.fault("one", 3);
        Check.fault("one \n ", 6);
        Check.fault("own;offer 7", 11);
        Check.fault("own;offer", 9);
        Check.fault("own;yields 7 to ", 16);
        String most = " ".repeat(697);
        Check.fault(most + "one", 700);
        Check.fault(most.substring(1) + "one;", -1);
    }
}
