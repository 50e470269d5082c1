import java.lang.reflect.InvocationTargetException;
import java.lang.reflect.Method;
import java.util.Random;

/** Runs of calls, the same on BillTender and on the Model: every answer must be alike, and none may throw. */
public final class ModelTest {
    private static final int RUNS = 400;
    private static final int CALLS = 512;

    /** Each call with the kinds of its arguments: b BID, h HOUSE, r YIELD, l LOTS, w what, t TERM, v its value, n any. */
    private static final String[] ACTS = {"bid hrl", "bid hrl", "bid hrl", "bid hrl", "bid hrl", "withdraw b", "change bwx",
        "change bwx", "term tv", "term tv", "own hh", "split bl", "merge h", "move bb", "hold hl", "settle", "undo"};
    private static final String[] ASKED = {"asTerm w", "of bw", "of bw", "pays b", "house hw", "house hw", "housePays h",
        "result w", "result w", "paid", "mean h", "filled b", "dearest", "price r", "upTo r", "ranked b", "full", "crowded",
        "step sw", "byOffer ow", "byTerm tvw", "byTerm tvw", "limitFor hl", "shareFor l", "paidBy w", "soldAt br",
        "soldAllAt hr", "stopWithout b", "pivot", "record sw", "records w", "recordPaid s", "spell i", "count w", "back w"};
    /** These try a thousand things or more, on the Model slowly. */
    private static final String[] SLOW = {"offerFor r", "lotsFor bl", "bestOffer", "yieldFor bl"};

    private final Random random;
    private final BillTender mine = new BillTender();
    private final Model model = new Model();
    private final StringBuilder log = new StringBuilder();
    // Narrow runs put many BIDS on few YIELDS and LOTS, so that PARTS and alike ones come about.
    private final boolean narrow;
    private int calls = 0;

    private ModelTest(int seed) {
        random = new Random(seed);
        narrow = random.nextBoolean();
    }

    public static void main(String[] args) {
        for (int seed = 0; seed < RUNS; seed++) {
            new ModelTest(seed).run(seed);
        }
        Check.finish();
    }

    private void run(int seed) {
        int slow = seed % 4 == 0 ? 60 : 250;
        while (calls < CALLS) {
            int dice = random.nextInt(slow);
            String call = dice == 0 ? pick(SLOW) : dice % 3 == 0 ? pick(ACTS) : pick(ASKED);
            boolean tells = random.nextInt(40) == 0 || calls == 0 && random.nextBoolean();
            boolean alike = tells ? tellText() : both(call);
            if (!alike) {
                System.out.println("seed " + seed + " behind:\n" + log + "with " + model.spelled());
                return;
            }
        }
    }

    private String pick(String[] some) {
        return some[random.nextInt(some.length)];
    }

    private boolean both(String call) {
        String[] parts = call.split(" ");
        String kinds = parts.length > 1 ? parts[1] : "";
        int[] args = new int[kinds.length()];
        for (int i = 0; i < args.length; i++) {
            args[i] = kinds.charAt(i) == 'v' ? termValue(args[0]) : value(kinds.charAt(i));
        }
        return same(parts[0], args);
    }

    private boolean same(String name, int... args) {
        if (calls == CALLS) {
            // What an object answers beyond these calls is free.
            return true;
        }
        calls++;
        Class<?>[] types = new Class<?>[args.length];
        Object[] values = new Object[args.length];
        StringBuilder told = new StringBuilder(name);
        for (int i = 0; i < args.length; i++) {
            types[i] = int.class;
            values[i] = args[i];
            told.append(' ').append(args[i]);
        }
        Object got = invoke(mine, name, types, values);
        Object want = invoke(model, name, types, values);
        log.append(told).append(" -> ").append(got).append('\n');
        boolean alike = String.valueOf(got).equals(String.valueOf(want));
        if (!alike) {
            Check.due(told.toString(), String.valueOf(got), String.valueOf(want));
        }
        return alike;
    }

    private static Object invoke(Object on, String name, Class<?>[] types, Object[] values) {
        try {
            Method method = on.getClass().getMethod(name, types);
            method.setAccessible(true);
            return method.invoke(on, values);
        } catch (InvocationTargetException e) {
            return "thrown: " + e.getCause();
        } catch (ReflectiveOperationException e) {
            throw new IllegalStateException(e);
        }
    }

    private int value(char kind) {
        if (random.nextInt(25) == 0) {
            int[] wild = {-1, -2, 0, 1, Integer.MIN_VALUE, Integer.MAX_VALUE, 8, 30, 999, 1000, 1001, 2000, 2001, 9999, 10000};
            return wild[random.nextInt(wild.length)];
        }
        switch (kind) {
            case 'b': return random.nextInt(Math.max(1, model.count(0)));
            case 'h': return random.nextInt(narrow ? 4 : 8);
            case 'r': return narrow ? random.nextInt(6) * 3 - 1 : random.nextInt(8) == 0 ? -1 : random.nextInt(1000);
            case 'l': return 1 + random.nextInt(narrow ? 12 : random.nextInt(4) == 0 ? 1000 : 60);
            case 'x': return random.nextInt(narrow ? 15 : 1000);
            case 'w': return random.nextInt(13);
            case 't': return random.nextInt(7);
            case 's': return random.nextInt(6);
            case 'o': return 1 + random.nextInt(narrow ? 100 : 2000);
            default: return random.nextInt(300) - 1;
        }
    }

    private int termValue(int term) {
        if (random.nextInt(20) == 0) {
            return value('n');
        }
        switch (term) {
            case 0: return 1 + random.nextInt(narrow ? 80 : 2000);
            case 1: return 1 + random.nextInt(100);
            case 2: return random.nextInt(101);
            case 3: return random.nextInt(narrow ? 6 : 400);
            case 4: return random.nextInt(4) == 0 ? 999 : random.nextInt(narrow ? 20 : 1000);
            case 5: return 1 + random.nextInt(360);
            default: return random.nextInt(2);
        }
    }

    private boolean tellText() {
        String text = randomText();
        for (int from = 0; from < text.length(); from += 20) {
            if (!same("feed", Check.five(text, from))) {
                return false;
            }
        }
        return same("back", (20 - text.length() % 20) % 20) && same("text") && same("spell", -1);
    }

    private String randomText() {
        StringBuilder text = new StringBuilder(gap(""));
        int statements = random.nextInt(random.nextInt(4) == 0 ? 45 : 12);
        for (int n = 0; n < statements; n++) {
            String form = pick(new String[] {"offer o ;", "limit L ;", "share S ;", "yields f to u ;", "days D ;", "one ;", "own ;",
                "holds h k ;", "owner h h ;", "bid h y lots l ;", "bid h y lots l ;", "bid h y lots l ;", "plain h lots l ;"});
            String latest = "";
            for (String part : form.split(" ")) {
                String next = part.length() > 1 || part.equals(";") ? part : number(part.charAt(0));
                text.append(next.equals(";") || latest.isEmpty() ? gap("") : gap(" ")).append(next);
                latest = next;
            }
            text.append(gap(""));
        }
        return random.nextInt(3) == 0 ? spoiled(text) : text.toString();
    }

    private String number(char kind) {
        int v;
        switch (kind) {
            case 'L': v = termValue(1); break;
            case 'S': v = termValue(2); break;
            case 'f': v = random.nextInt(5); break;
            case 'u': v = 5 + random.nextInt(995); break;
            case 'D': v = termValue(5); break;
            case 'k': v = random.nextInt(300); break;
            case 'y': v = narrow ? random.nextInt(10) : random.nextInt(1000); break;
            default: v = value(kind);
        }
        v = Math.abs(v % 100000);
        return random.nextInt(20) == 0 && v < 1000 ? "00" + v : String.valueOf(v);
    }

    private String gap(String least) {
        return random.nextInt(12) != 0 ? least : least + pick(new String[] {" ", "\n", "  ", " \n "});
    }

    private String spoiled(StringBuilder text) {
        if (text.length() == 0) {
            return "?";
        }
        int at = random.nextInt(text.length());
        switch (random.nextInt(4)) {
            case 0: return text.deleteCharAt(at).toString();
            case 1: return text.substring(0, at);
            case 2: return text.insert(at, pick(new String[] {" ", "7", "x", ";", "A", "\t", "" + (char) 0, "" + (char) 255})).toString();
            default:
                text.setCharAt(at, (char) random.nextInt(256));
                return text.toString();
        }
    }
}
