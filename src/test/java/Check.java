import java.nio.charset.StandardCharsets;
import java.util.Arrays;
import java.util.function.IntToLongFunction;

/** What the tests share: counting wrong answers, and telling an object a TEXT. */
final class Check {
    private static int wrong = 0;
    private static int checks = 0;
    private static String about = "";

    private Check() {
    }

    /** What the checks from here on are for; it is told ahead of each wrong answer. */
    static void about(String words) {
        about = words + ": ";
    }

    static int checks() {
        return checks;
    }

    static void due(String call, long got, long want) {
        due(call, Long.toString(got), Long.toString(want));
    }

    static void due(String call, boolean got, boolean want) {
        due(call, Boolean.toString(got), Boolean.toString(want));
    }

    static void due(String call, String got, String want) {
        checks++;
        if (!got.equals(want)) {
            wrong++;
            System.out.println(about + call + " answered " + got + ", due is " + want);
        }
    }

    /** Several answers of one kind of call: f(0), f(1) .. */
    static void row(String call, IntToLongFunction f, long... want) {
        for (int i = 0; i < want.length; i++) {
            due(call + " " + i, f.applyAsLong(i), want[i]);
        }
    }

    static void finish() {
        System.out.println(wrong == 0 ? "all answers are as due" : wrong + " answers are not as due");
        if (wrong != 0) {
            System.exit(1);
        }
    }

    /** Five numbers for feed() out of twenty bytes from a place on, blanks where the TEXT has ended. */
    static int[] five(String text, int from) {
        byte[] twenty = new byte[20];
        Arrays.fill(twenty, (byte) 32);
        byte[] all = text.getBytes(StandardCharsets.ISO_8859_1);
        for (int i = 0; i < 20 && from + i < all.length; i++) {
            twenty[i] = all[from + i];
        }
        int[] five = new int[5];
        for (int i = 0; i < 20; i++) {
            five[i / 4] = five[i / 4] << 8 | twenty[i] & 255;
        }
        return five;
    }

    static void feed(BillTender x, String text) {
        for (int from = 0; from < text.length(); from += 20) {
            int[] five = five(text, from);
            x.feed(five[0], five[1], five[2], five[3], five[4]);
        }
        x.back((20 - text.length() % 20) % 20);
    }

    static int tell(BillTender x, String text) {
        feed(x, text);
        return x.text();
    }

    static BillTender told(String text) {
        BillTender x = new BillTender();
        int answer = tell(x, text);
        if (answer < 0) {
            due("text() of " + text, answer, 0);
        }
        // A FAULT behind it must leave all as it is; it also makes what the object tried last something else.
        tell(x, "offer 3;holds 2 7;plain 5 lots 5;x");
        return x;
    }

    static String spelled(BillTender x) {
        StringBuilder text = new StringBuilder();
        int length = x.spell(BillTender.NONE);
        for (int i = 0; i < length; i++) {
            text.append((char) x.spell(i));
        }
        return text.toString();
    }

    /** All that a refused call must leave as it is, in some hundred calls (an object has no more than 512). */
    static String state(BillTender x) {
        StringBuilder all = new StringBuilder("TERMS");
        for (int what = 0; what < 7; what++) {
            all.append(' ').append(x.asTerm(what));
        }
        for (int h = 0; h < 8; h++) {
            all.append("; HOUSE ").append(x.house(h, 0)).append(' ').append(x.house(h, 5));
        }
        for (int i = 0; i < x.count(0); i++) {
            all.append("; BID ").append(x.of(i, 0)).append(' ').append(x.of(i, 1)).append(' ').append(x.of(i, 2));
        }
        for (int k = 0; k < x.count(2); k++) {
            all.append("; line ").append(x.record(k, 0)).append(' ').append(x.record(k, 1)).append(' ').append(x.record(k, 2));
            all.append(' ').append(x.recordPaid(k));
        }
        return all.append("; ACTS ").append(x.count(3)).append("; tape ").append(x.count(4)).toString();
    }

    /** A TEXT on a new object has its FAULT at a place, or none, if the place is below 0. */
    static void fault(String text, int place) {
        BillTender x = new BillTender();
        int answer = tell(x, text);
        due("text() of '" + text + "'", answer, place < 0 ? x.count(0) : -4 - place);
    }

    static void read(String... texts) {
        for (String text : texts) {
            fault(text, -1);
        }
    }
}
