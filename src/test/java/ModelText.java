import java.util.ArrayList;
import java.util.List;
import java.util.regex.Matcher;
import java.util.regex.Pattern;

/** A TEXT read by tokens and patterns of them: the Model's other way to find a FAULT. */
final class ModelText {
    private record Token(String text, int at, boolean glued) {
    }

    private static final String[] FORMS = {"offer N0 ;", "limit N1 ;", "share N2 ;", "yields N3 to N4 ;", "days N5 ;", "one ;",
        "own ;", "holds H L ;", "owner H H ;", "bid H Y lots B ;", "plain H lots B ;"};

    final Model.State state = new Model.State();
    int fault = -1;
    private final List<Token> tokens = new ArrayList<>();
    private final int length;
    private int next = 0;

    ModelText(String tape) {
        length = tape.length();
        Matcher m = Pattern.compile("[a-z]+|[0-9]+|[^ \\n]", Pattern.DOTALL).matcher(tape);
        int end = -1;
        boolean wide = false;
        while (m.find()) {
            boolean nowWide = m.group().matches("[a-z0-9]+");
            tokens.add(new Token(m.group(), m.start(), wide && nowWide && m.start() == end));
            end = m.end();
            wide = nowWide;
        }
        while (next < tokens.size() && fault < 0) {
            statement();
        }
    }

    private void statement() {
        Token first = tokens.get(next);
        for (String form : FORMS) {
            String[] parts = form.split(" ");
            if (parts[0].equals(first.text())) {
                boolean isBid = parts[0].equals("bid") || parts[0].equals("plain");
                if (isBid && state.bids.size() == 30) {
                    break;
                }
                next++;
                follow(parts);
                return;
            }
        }
        fault = first.at();
    }

    private void follow(String[] parts) {
        List<Integer> numbers = new ArrayList<>();
        for (int p = 1; p < parts.length; p++) {
            if (next >= tokens.size()) {
                fault = length;
                return;
            }
            Token t = tokens.get(next++);
            boolean fits = !t.glued() && (Character.isUpperCase(parts[p].charAt(0)) ? number(parts[p], t.text(), numbers)
                : t.text().equals(parts[p]));
            if (!fits) {
                fault = t.at();
                return;
            }
        }
        apply(parts[0], numbers);
    }

    private boolean number(String kind, String text, List<Integer> numbers) {
        if (!text.matches("[0-9]{1,5}")) {
            return false;
        }
        int v = Integer.parseInt(text);
        numbers.add(v);
        switch (kind) {
            case "N0": return v >= 1 && v <= 2000;
            case "N1": return v >= 1 && v <= 100;
            case "N2": return v <= 100;
            case "N3": return v <= 999;
            case "N4": return v <= 999 && v >= numbers.get(0);
            case "N5": return v >= 1 && v <= 360;
            case "H": return v <= 7;
            case "L": return v <= 9999;
            case "Y": return v <= 999;
            default: return v >= 1 && v <= 1000;
        }
    }

    private void apply(String word, List<Integer> n) {
        switch (word) {
            case "offer": state.terms[0] = n.get(0); break;
            case "limit": state.terms[1] = n.get(0); break;
            case "share": state.terms[2] = n.get(0); break;
            case "yields": state.terms[3] = n.get(0); state.terms[4] = n.get(1); break;
            case "days": state.terms[5] = n.get(0); break;
            case "one": state.terms[6] = 0; break;
            case "own": state.terms[6] = 1; break;
            case "holds": state.holds[n.get(0)] = n.get(1); break;
            case "owner": state.owners[n.get(0)] = n.get(1); break;
            case "bid": state.bids.add(new Model.Bid(n.get(0), n.get(1), n.get(2))); break;
            default: state.bids.add(new Model.Bid(n.get(0), null, n.get(1)));
        }
    }
}
