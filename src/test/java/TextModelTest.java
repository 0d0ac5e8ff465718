import java.util.ArrayList;
import java.util.List;
import java.util.Random;

/** Drawn texts, right ones and such with a token or a byte put wrong, against PlainText: FAULT, place, all that is told, who may read. */
public final class TextModelTest {
    private static final TestKit KIT = new TestKit("TextModelTest");
    private static final int TEXTS = 60000;
    private static final String[] MONKS = {"monk", "clerk", "bald", "plait"};
    private static final String[] ENTRIES = {"law", "debt", "grant", "note"};
    private static final String[] VALUES = {"kind", "dye", "about", "old", "grey", "own", "age"};
    private static final String[] OTHERS = {"monk", "plait", "law", "note", "copy", "knee", "grey", "daily", "reads", "dyed", "knot", "or", "and", "not",
        "own", "age", "zz", "0", "1", "2", "6", "7", "8", "9", "10", "24", "60", "61", "99", "100", "999", "1000", "9999", "10000", "00000", ";", "(", ")",
        "+", "-", "*", "/", "<", "=", "!", "\t", "A", "((((((", "not not not not not not not"};
    private static final String[] LINES = {"knee 5;", "grey 1;", "daily 9;", "reads 1;", "monk 1 1;", "law 0 0 0 0;", "copy 0 0 0;", "copy 1 0 0;"};

    private final Random random;
    private final List<String> tokens = new ArrayList<>();

    private TextModelTest(int seed) {
        random = new Random(seed);
    }

    public static void main(String[] args) {
        int[] faults = new int[7];
        for (int seed = 0; seed < TEXTS; seed++) {
            TextModelTest test = new TextModelTest(seed);
            faults[compare(test.text())]++;
        }
        for (int fault = 0; fault <= 6; fault++) {
            KIT.same("texts with FAULT " + fault + " were drawn: " + faults[fault], faults[fault] > 100, true);
        }
        KIT.end();
    }

    private int upTo(int most) {
        return random.nextInt(most + 1);
    }

    private String text() {
        draw();
        int wrongs = upTo(2);
        for (int i = 0; i < wrongs && !tokens.isEmpty(); i++) {
            int at = upTo(tokens.size() - 1);
            switch (upTo(4)) {
                case 0: tokens.set(at, OTHERS[upTo(OTHERS.length - 1)]); break;
                case 1: tokens.add(at, OTHERS[upTo(OTHERS.length - 1)]); break;
                case 2: tokens.remove(at); break;
                case 3: tokens.add(tokens.subList(at, tokens.size()).indexOf(";") + at + 1, LINES[upTo(LINES.length - 1)]); break;
                default: tokens.add(at, tokens.get(upTo(tokens.size() - 1))); break;
            }
        }
        StringBuilder text = new StringBuilder();
        for (String token : tokens) {
            boolean part = text.length() > 0 && Character.isLetterOrDigit(text.charAt(text.length() - 1)) && Character.isLetterOrDigit(token.charAt(0));
            text.append(upTo(20) == 0 ? "\n " : part && upTo(60) > 0 || upTo(9) == 0 ? " " : "").append(token);
        }
        if (upTo(9) == 0 && text.length() > 0) {
            text.setLength(upTo(text.length() - 1));
        }
        if (upTo(9) == 0 && text.length() > 0) {
            text.setCharAt(upTo(text.length() - 1), (char) upTo(255));
        }
        text.setLength(Math.min(700, text.length()));
        return text.toString();
    }

    private void put(Object... more) {
        for (Object one : more) {
            tokens.add(one.toString());
        }
    }

    private void draw() {
        if (upTo(2) == 0) {
            put("knee", 1 + upTo(59), ";");
        }
        int monks = upTo(5) == 0 ? 6 : upTo(6);
        for (int i = 0; i < monks; i++) {
            put(MONKS[upTo(3)], upTo(99), upTo(60), ";");
        }
        if (upTo(2) == 0) {
            put("grey", 1 + upTo(98), ";");
        }
        if (upTo(2) == 0) {
            put("daily", 1 + upTo(8), ";");
        }
        int entries = monks == 0 ? 0 : upTo(9) == 0 ? 24 : upTo(8);
        for (int i = 0; i < entries; i++) {
            if (i > 0 && upTo(3) == 0) {
                put("copy", upTo(i - 1), upTo(monks - 1), upTo(30), ";");
            } else {
                entry(monks);
            }
        }
        if (upTo(1) == 0) {
            put("reads");
            expr(1);
            put(";");
        }
    }

    private void entry(int monks) {
        put(ENTRIES[upTo(3)], upTo(monks - 1), upTo(3) == 0 ? upTo(60) : upTo(9), upTo(7), upTo(999));
        if (upTo(3) == 0) {
            put("dyed", upTo(7));
        }
        if (upTo(3) == 0) {
            put("knot");
        }
        put(";");
    }

    private void expr(int depth) {
        int more = upTo(3) == 0 ? 1 + upTo(2) : 0;
        for (int i = 0; i <= more; i++) {
            if (i > 0) {
                put(upTo(1) == 0 ? "or" : "and");
            }
            for (int nots = upTo(5) == 0 ? upTo(6) : 0; nots > 0; nots--) {
                put("not");
            }
            sum(depth);
            if (upTo(1) == 0) {
                put(upTo(1) == 0 ? "<" : "=");
                sum(depth);
            }
        }
    }

    private void sum(int depth) {
        int more = upTo(2) == 0 ? 1 + upTo(2) : 0;
        for (int i = 0; i <= more; i++) {
            if (i > 0) {
                put("+-*/".charAt(upTo(3)));
            }
            int kind = upTo(6);
            if (kind <= 1 && depth < 7) {
                put("(");
                expr(depth + 1);
                put(")");
            } else if (kind <= 4) {
                put(VALUES[upTo(6)]);
            } else {
                put(upTo(3) == 0 ? upTo(9999) : upTo(9));
            }
        }
    }

    private static int compare(String text) {
        int due = 0;
        int place = -1;
        PlainText plain = null;
        try {
            plain = PlainText.read(text);
        } catch (PlainText.Fault fault) {
            due = fault.code;
            place = fault.place;
        }
        BeardHall hall = new BeardHall();
        KIT.same("archive of " + text, TestKit.archive(hall, text), due);
        KIT.same("fault of " + text, hall.fault(), place);
        if (plain != null) {
            compareHall(text, hall, plain);
        }
        return due;
    }

    private static void compareHall(String text, BeardHall hall, PlainText plain) {
        KIT.same("MONKS of " + text, hall.count(0), plain.hall.monks.size());
        KIT.same("ENTRIES of " + text, hall.count(1), plain.hall.entries.size());
        KIT.same("KNEE of " + text, hall.count(2), plain.hall.knee);
        KIT.same("GREY of " + text, hall.count(3), plain.hall.grey);
        KIT.same("DAILY of " + text, hall.count(4), plain.hall.daily);
        for (int m = 0; m < plain.hall.monks.size(); m++) {
            PlainHall.Monk monk = plain.hall.monks.get(m);
            int[] due = {monk.kind, monk.age, monk.length, plain.hall.cap(m)};
            for (int what = 0; what < due.length; what++) {
                KIT.same("monk(" + m + ", " + what + ") of " + text, hall.monk(m, what), due[what]);
            }
        }
        for (int e = 0; e < plain.hall.entries.size(); e++) {
            PlainHall.Entry entry = plain.hall.entries.get(e);
            int[] due = {entry.kind, entry.monk, entry.year, entry.about, entry.value, entry.dye, entry.knot ? 1 : 0, entry.record,
                entry.gone ? 0 : 1, entry.breadths};
            for (int what = 0; what < due.length; what++) {
                KIT.same("entry(" + e + ", " + what + ") of " + text, hall.entry(e, what), due[what]);
            }
            for (int m = 0; m < plain.hall.monks.size(); m++) {
                KIT.same("may(" + m + ", " + e + ") of " + text, hall.may(m, e), plain.may(m, e));
            }
        }
    }
}
