import java.util.ArrayList;
import java.util.Arrays;
import java.util.List;
import java.util.function.ToIntFunction;
import java.util.regex.Matcher;
import java.util.regex.Pattern;

/**
 * The document's texts told once more, for TextModelTest: TOKENS are cut first, all of them, and a rule becomes functions
 * of who would read; at each TOKEN the FAULTS are looked at from the least up.
 */
final class PlainText {
    /** The VALUES of one who would read an ENTRY, by name. */
    interface Reading {
        int value(String name);
    }

    static final class Fault extends RuntimeException {
        private static final long serialVersionUID = 1;
        final int code;
        final int place;

        Fault(int code, int place) {
            this.code = code;
            this.place = place;
        }
    }

    private static final Pattern TOKEN = Pattern.compile("[a-z]+|[0-9]+|[^ \n]", Pattern.DOTALL);
    private static final List<String> MONKS = List.of("monk", "clerk", "bald", "plait");
    private static final List<String> ENTRIES = List.of("law", "debt", "grant", "note");
    private static final List<String> SETTINGS = List.of("knee", "grey", "daily", "reads");
    private static final List<String> VALUES = List.of("kind", "dye", "about", "old", "grey", "own", "age");

    final PlainHall hall = new PlainHall();
    ToIntFunction<Reading> rule;
    private final List<String> tokens = new ArrayList<>();
    private final List<Integer> places = new ArrayList<>();
    private final List<String> told = new ArrayList<>();
    private int at;

    private PlainText(String text) {
        Matcher matcher = TOKEN.matcher(text);
        while (matcher.find()) {
            tokens.add(matcher.group());
            places.add(matcher.start());
        }
        tokens.add("");
        places.add(text.length());
    }

    /** Throws a Fault if there is one. */
    static PlainText read(String text) {
        PlainText plain = new PlainText(text);
        while (!plain.token().isEmpty()) {
            plain.line();
        }
        return plain;
    }

    private String token() {
        return tokens.get(at);
    }

    private void check(boolean fine, int code) {
        if (!fine) {
            throw new Fault(code, places.get(at));
        }
    }

    private boolean isNumber() {
        return token().matches("[0-9]+");
    }

    private boolean isWord() {
        return token().matches("[a-z]+");
    }

    private void take(String what) {
        check(token().equals(what), 1);
        at++;
    }

    private int digits() {
        check(isNumber(), 1);
        check(token().length() <= 4, 2);
        return Integer.parseInt(token());
    }

    private int number(int least, int most) {
        int number = digits();
        check(number >= least && number <= most, 2);
        at++;
        return number;
    }

    private int told(int many) {
        int number = digits();
        check(number < many, 3);
        at++;
        return number;
    }

    private void line() {
        String word = token();
        boolean entry = ENTRIES.contains(word) || word.equals("copy");
        check(entry || MONKS.contains(word) || SETTINGS.contains(word), 1);
        check(!(MONKS.contains(word) && hall.monks.size() == 6), 2);
        check(!(entry && hall.entries.size() == 24), 2);
        check(!(word.equals("knee") && !hall.monks.isEmpty()), 6);
        check(!told.contains(word), 5);
        at++;
        if (MONKS.contains(word)) {
            int age = number(0, 99);
            hall.addMonk(MONKS.indexOf(word), age, number(0, 60));
        } else if (word.equals("copy")) {
            copy();
        } else if (entry) {
            entry(ENTRIES.indexOf(word));
        } else {
            told.add(word);
            setting(word);
        }
        take(";");
    }

    private void entry(int kind) {
        int monk = told(hall.monks.size());
        int ago = number(0, 60);
        int about = number(0, 7);
        PlainHall.Entry entry = hall.entries.get(hall.addEntry(kind, monk, ago, about, number(0, 999)));
        if (token().equals("dyed")) {
            at++;
            entry.dye = number(0, 7);
        }
        if (token().equals("knot")) {
            at++;
            entry.knot = true;
        }
    }

    private void copy() {
        int from = told(hall.entries.size());
        int monk = told(hall.monks.size());
        at--;
        check(!hall.holds(monk, hall.entries.get(from).record), 4);
        at++;
        hall.addCopy(from, monk, number(0, 60));
    }

    private void setting(String word) {
        switch (word) {
            case "knee": hall.knee = number(1, 60); break;
            case "grey": hall.grey = number(1, 99); break;
            case "daily": hall.daily = number(1, 9); break;
            default: rule = expr(0); break;
        }
    }

    /** An EXPR within so many others. */
    private ToIntFunction<Reading> expr(int others) {
        check(isNumber() || isWord() || token().equals("("), 1);
        check(others < 6, 2);
        return or(others);
    }

    private ToIntFunction<Reading> or(int others) {
        ToIntFunction<Reading> left = and(others);
        while (token().equals("or")) {
            at++;
            ToIntFunction<Reading> one = left;
            ToIntFunction<Reading> other = and(others);
            left = r -> one.applyAsInt(r) != 0 | other.applyAsInt(r) != 0 ? 1 : 0;
        }
        return left;
    }

    private ToIntFunction<Reading> and(int others) {
        ToIntFunction<Reading> left = not(others, 1);
        while (token().equals("and")) {
            at++;
            ToIntFunction<Reading> one = left;
            ToIntFunction<Reading> other = not(others, 1);
            left = r -> one.applyAsInt(r) != 0 & other.applyAsInt(r) != 0 ? 1 : 0;
        }
        return left;
    }

    private ToIntFunction<Reading> not(int others, int which) {
        if (token().equals("not")) {
            check(which < 7, 2);
            at++;
            ToIntFunction<Reading> one = not(others, which + 1);
            return r -> one.applyAsInt(r) == 0 ? 1 : 0;
        }
        ToIntFunction<Reading> left = signs(others, "+-");
        String sign = token();
        if (sign.equals("<") || sign.equals("=")) {
            at++;
            ToIntFunction<Reading> right = signs(others, "+-");
            return sign.equals("<") ? r -> left.applyAsInt(r) < right.applyAsInt(r) ? 1 : 0
                : r -> left.applyAsInt(r) == right.applyAsInt(r) ? 1 : 0;
        }
        return left;
    }

    /** A SUM by its two signs, or a PRODUCT by its. */
    private ToIntFunction<Reading> signs(int others, String two) {
        ToIntFunction<Reading> left = two.equals("+-") ? signs(others, "*/") : part(others);
        while (!token().isEmpty() && two.contains(token())) {
            String sign = token();
            at++;
            ToIntFunction<Reading> one = left;
            ToIntFunction<Reading> other = two.equals("+-") ? signs(others, "*/") : part(others);
            left = r -> joined(sign, one.applyAsInt(r), other.applyAsInt(r));
        }
        return left;
    }

    private static int joined(String sign, int left, int right) {
        long wide;
        switch (sign) {
            case "+": wide = (long) left + right; break;
            case "-": wide = (long) left - right; break;
            case "*": wide = (long) left * right; break;
            default: wide = right == 0 ? 0 : (long) left / right; break;
        }
        return (int) wide;
    }

    private ToIntFunction<Reading> part(int others) {
        String token = token();
        if (token.equals("(")) {
            at++;
            ToIntFunction<Reading> inside = expr(others + 1);
            take(")");
            return inside;
        }
        if (isWord()) {
            check(VALUES.contains(token), 3);
            at++;
            return r -> r.value(token);
        }
        int number = digits();
        at++;
        return r -> number;
    }

    /** Whether a MONK MAY READ an ENTRY, by the rule or without. */
    boolean may(int monk, int number) {
        PlainHall.Entry entry = hall.entries.get(number);
        PlainHall.Monk holder = hall.monks.get(entry.monk);
        if (entry.gone || holder.kind == 3) {
            return !entry.gone && monk == entry.monk;
        }
        boolean grey = holder.age >= hall.grey;
        if (rule == null) {
            return monk == entry.monk || !grey;
        }
        int[] values = {entry.kind, entry.dye, entry.about, entry.breadths, grey ? 1 : 0, monk == entry.monk ? 1 : 0, hall.monks.get(monk).age};
        return rule.applyAsInt(name -> values[VALUES.indexOf(name)]) != 0;
    }

    @Override
    public String toString() {
        return Arrays.toString(tokens.toArray());
    }
}
