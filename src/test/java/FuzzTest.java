import java.util.NoSuchElementException;
import java.util.Random;

/** Drawn texts and drawn numbers: nothing but what the document names is ever thrown, and a FAULT changes nothing. */
public final class FuzzTest {
    private static final TestKit KIT = new TestKit("FuzzTest");
    private static final String[] TOKENS = {"monk", "clerk", "bald", "plait", "law", "debt", "grant", "note", "copy", "knee", "grey", "daily",
        "reads", "dyed", "knot", "or", "and", "not", "kind", "dye", "about", "old", "own", "age", ";", ";", ";", "(", "(", ")", ")", "+", "-",
        "*", "/", "<", "=", "0", "1", "2", "7", "12", "60", "999", "10000", " ", "\n", "x", "!"};
    private static final int[] EDGES = {Integer.MIN_VALUE, -2, -1, 0, 1, 2, 3, 5, 6, 7, 8, 9, 10, 20, 23, 24, 30, 31, 40, 41, 60, 61, 999,
        Integer.MAX_VALUE};

    public static void main(String[] args) {
        soups();
        rules();
        numbers();
        KIT.end();
    }

    private static void soups() {
        Random random = new Random(7);
        BeardHall hall = new BeardHall();
        int faults = 0;
        for (int i = 0; i < 20000; i++) {
            if (i % 10 == 0) {
                // nothing is promised of an object after its 512th call
                hall = new BeardHall();
                faults = 0;
            }
            StringBuilder text = new StringBuilder(random.nextBoolean() ? "monk 1 9;clerk 1 5;law 0 1 1 1;" : "");
            int tokens = random.nextInt(30);
            for (int t = 0; t < tokens; t++) {
                text.append(TOKENS[random.nextInt(TOKENS.length)]).append(random.nextInt(3) == 0 ? "" : " ");
            }
            int monks = hall.count(0);
            int entries = hall.count(1);
            int fault = TestKit.archive(hall, text.toString());
            faults += fault == 0 ? 0 : 1;
            KIT.same("a FAULT of " + text, fault >= 0 && fault <= 6, true);
            KIT.same("its place in " + text, hall.fault() >= -1 && hall.fault() <= text.length(), true);
            KIT.same("a place for a FAULT", hall.fault() == -1, fault == 0);
            KIT.same("STATUS 0", hall.count(12), faults);
            if (fault != 0) {
                KIT.same("MONKS stay", hall.count(0), monks);
                KIT.same("ENTRIES stay", hall.count(1), entries);
            }
        }
    }

    private static int value;

    /** A rule that is right by how it is made; value is its number then. */
    private static String expr(Random random, int depth, int level) {
        String text;
        if (level == 5) {
            if (depth < 6 && random.nextInt(3) == 0) {
                return "(" + expr(random, depth + 1, 0) + ")";
            }
            value = random.nextInt(5) == 0 ? random.nextInt(10000) : random.nextInt(4);
            return Integer.toString(value);
        }
        if (level == 2) {
            int nots = random.nextInt(4) == 0 ? 1 + random.nextInt(6) : 0;
            text = expr(random, depth, 3);
            int left = value;
            if (random.nextInt(3) == 0) {
                boolean less = random.nextBoolean();
                text = text + (less ? "<" : "=") + expr(random, depth, 3);
                value = (less ? left < value : left == value) ? 1 : 0;
            }
            for (int i = 0; i < nots; i++) {
                value = value == 0 ? 1 : 0;
            }
            return "not ".repeat(nots) + text;
        }
        text = expr(random, depth, level + 1);
        int sum = value;
        for (int more = random.nextInt(3) == 0 ? 1 + random.nextInt(2) : 0; more > 0; more--) {
            boolean first = random.nextBoolean();
            String sign = level == 0 ? " or " : level == 1 ? " and " : level == 3 ? first ? "+" : "-" : first ? "*" : "/";
            text = text + sign + expr(random, depth, level + 1);
            sum = joined(sign, sum, value);
        }
        value = sum;
        return text;
    }

    private static int joined(String sign, int left, int right) {
        switch (sign) {
            case " or ": return left != 0 || right != 0 ? 1 : 0;
            case " and ": return left != 0 && right != 0 ? 1 : 0;
            case "+": return left + right;
            case "-": return left - right;
            case "*": return left * right;
            default: return right == 0 ? 0 : left / right;
        }
    }

    private static void rules() {
        Random random = new Random(11);
        for (int i = 0; i < 20000; i++) {
            String rule = expr(random, 1, 0);
            if (rule.length() <= 600) {
                BeardHall hall = new BeardHall();
                KIT.same(rule, TestKit.archive(hall, "monk 1 9;note 0 0 0 0;reads " + rule + ";"), 0);
                KIT.same(rule, hall.may(0, 0), value != 0);
            }
        }
    }

    private static void numbers() {
        Random random = new Random(13);
        for (int run = 0; run < 2000; run++) {
            BeardHall hall = new BeardHall();
            if (run % 3 > 0) {
                TestKit.archive(hall, "monk 1 9;clerk 70 5;plait 3 20;bald 9 0;law 0 1 1 1;debt 1 1 1 1;copy 0 1 2;note 2 0 0 9 knot;reads own<old/age;");
            }
            for (int call = 0; call < 400; call++) {
                KIT.same("nothing else is thrown", drawn(hall, random.nextInt(40), random), true);
            }
        }
    }

    private static int edge(Random random) {
        return EDGES[random.nextInt(random.nextBoolean() ? EDGES.length : 9)];
    }

    private static boolean drawn(BeardHall hall, int kind, Random random) {
        try {
            call(hall, kind, edge(random), edge(random), edge(random), edge(random));
        } catch (NoSuchElementException e) {
            return true;
        } catch (IllegalArgumentException e) {
            return kind == 1 || kind == 22 || kind == 24 || kind == 29 || kind == 37;
        }
        return true;
    }

    private static void call(BeardHall hall, int kind, int a, int b, int c, int d) {
        switch (kind) {
            case 0: hall.feed(a, b, c, d, a); break;
            case 1: hall.archive(a > 5 ? a : -1); break;
            case 2: hall.fault(); break;
            case 3: hall.count(a); break;
            case 4: hall.monk(a, b); break;
            case 5: hall.entry(a, b); break;
            case 6: hall.holders(a); break;
            case 7: hall.may(a, b); break;
            case 8: hall.years(a); break;
            case 9: hall.braid(a, b, c, d); break;
            case 10: hall.copy(a, b); break;
            case 11: hall.knot(a); break;
            case 12: hall.comb(a); break;
            case 13: hall.shave(a, b); break;
            case 14: hall.moths(a, b, c); break;
            case 15: hall.die(a); break;
            case 16: hall.undo(); break;
            case 17: hall.law(a); break;
            case 18: hall.rivals(); break;
            case 19: hall.owed(a); break;
            case 20: hall.cover(); break;
            case 21: hall.alone(); break;
            case 22: hall.barbers(a); break;
            case 23: hall.shortest(a); break;
            case 24: hall.amnesty(a, b, c); break;
            case 25: hall.week(a, b); break;
            case 26: hall.oldest(a, b); break;
            case 27: hall.believed(a); break;
            case 28: hall.until(a); break;
            case 29: hall.doomed(a); break;
            case 30: hall.safest(); break;
            case 31: hall.heir(a); break;
            case 32: hall.lice(a); break;
            case 33: hall.see(a, b > 0); break;
            case 34: hall.ate(a, b); break;
            case 35: hall.forget(); break;
            case 36: hall.game(a); break;
            case 37: hall.season(a, b, c); break;
            case 38: hall.image(); break;
            default: hall.restore(); break;
        }
    }
}
