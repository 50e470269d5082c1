import java.nio.charset.StandardCharsets;
import java.util.Arrays;

/** What the tests share: counting wrong answers, and telling an object a TEXT. */
final class Check {
    private static int wrong = 0;

    private Check() {
    }

    static void due(String call, long got, long want) {
        if (got != want) {
            wrong++;
            System.out.println(call + " answered " + got + ", due is " + want);
        }
    }

    static void due(String call, boolean got, boolean want) {
        due(call, got ? 1 : 0, want ? 1 : 0);
    }

    static void due(String call, String got, String want) {
        if (!got.equals(want)) {
            wrong++;
            System.out.println(call + " answered " + got + ", due is " + want);
        }
    }

    static void finish() {
        System.out.println(wrong == 0 ? "all answers are as due" : wrong + " answers are not as due");
        if (wrong != 0) {
            System.exit(1);
        }
    }

    /** Five numbers for feed() out of twenty bytes from a place on, blanks where the TEXT has ended. */
    static int[] five(String text, int from) {
        byte[] twenty = new byte[20];
        Arrays.fill(twenty, (byte) 32);
        byte[] all = text.getBytes(StandardCharsets.ISO_8859_1);
        for (int i = 0; i < 20 && from + i < all.length; i++) {
            twenty[i] = all[from + i];
        }
        int[] five = new int[5];
        for (int i = 0; i < 20; i++) {
            five[i / 4] = five[i / 4] << 8 | twenty[i] & 255;
        }
        return five;
    }

    static void feed(BillTender x, String text) {
        for (int from = 0; from < text.length(); from += 20) {
            int[] five = five(text, from);
            x.feed(five[0], five[1], five[2], five[3], five[4]);
        }
        x.back((20 - text.length() % 20) % 20);
    }

    static int tell(BillTender x, String text) {
        feed(x, text);
        return x.text();
    }

    static BillTender told(String text) {
        BillTender x = new BillTender();
        int answer = tell(x, text);
        if (answer < 0) {
            due("text() of " + text, answer, 0);
        }
        // A FAULT behind it must leave all as it is; it also makes what the object tried last something else.
        tell(x, "offer 3;holds 2 7;plain 5 lots 5;x");
        return x;
    }

    static String spelled(BillTender x) {
        StringBuilder text = new StringBuilder();
        int length = x.spell(BillTender.NONE);
        for (int i = 0; i < length; i++) {
            text.append((char) x.spell(i));
        }
        return text.toString();
    }
}
