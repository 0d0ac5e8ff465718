/**
 * What is said once and holds 'as everywhere': no such MONK, no such ENTRY, an ABOUT that isn't 0 to 7, another what;
 * which exception comes ahead of which; and that a call that throws changes nothing.
 */
public final class BoundsOfNumbersTest {
    private static final TestKit KIT = new TestKit("BoundsOfNumbersTest");

    private interface WithNumber {
        long of(BeardHall hall, int number);
    }

    private static final Twins SOME = new Twins(KIT, "monk 20 9;plait 70 9;note 0 1 0 5;debt 1 2 3 4 knot;copy 0 1 3;", hall -> {
        hall.years(1);
        hall.see(0, true);
        hall.image();
        hall.knot(0);
        hall.see(1, false);
        TestKit.feed(hall, "monk");
    });

    private static final Twins NOBODY = new Twins(KIT, "", hall -> hall.years(1));

    public static void main(String[] args) {
        noSuchMonk();
        noSuchEntry();
        noSuchAbout();
        anotherWhat();
        anotherDayOrKind();
        illegalNumbers();
        whichIsAhead();
        undoneNumbers();
        KIT.end();
    }

    private static void noSuch(Twins twins, String what, WithNumber call, int... numbers) {
        for (int number : numbers) {
            twins.noSuch(what + " of " + number, hall -> call.of(hall, number));
        }
    }

    private static void illegal(String what, WithNumber call, int... numbers) {
        for (int number : numbers) {
            SOME.illegal(what + " of " + number, hall -> call.of(hall, number));
            NOBODY.illegal(what + " of " + number, hall -> call.of(hall, number));
        }
    }

    private static long bit(boolean answer) {
        return answer ? 1 : 0;
    }

    // 'no such MONK (as everywhere)'
    private static void noSuchMonk() {
        monk("monk", (hall, m) -> hall.monk(m, 0));
        monk("may", (hall, m) -> bit(hall.may(m, 0)));
        monk("braid", (hall, m) -> hall.braid(m, 0, 0, 0));
        monk("braid of no such KIND", (hall, m) -> hall.braid(m, 4, 8, 1000));
        monk("copy", (hall, m) -> hall.copy(0, m));
        monk("copy of what is KNOTTED", (hall, m) -> hall.copy(1, m));
        monk("shave", (hall, m) -> hall.shave(m, 0));
        monk("shave below 0", (hall, m) -> hall.shave(m, -1));
        monk("moths", (hall, m) -> hall.moths(m, 0, 0));
        monk("moths to below from", (hall, m) -> hall.moths(m, 5, 4));
        monk("die", (hall, m) -> bit(hall.die(m)));
        monk("shortest", (hall, m) -> hall.shortest(m));
        monk("amnesty", (hall, m) -> hall.amnesty(m, 0, 0));
        monk("amnesty 10 wide", (hall, m) -> hall.amnesty(m, 10, 0));
        monk("week", (hall, m) -> hall.week(m, 0));
        monk("heir", (hall, m) -> hall.heir(m));
        monk("lice", (hall, m) -> hall.lice(m));
        monk("ate", (hall, m) -> hall.ate(m, 0));
    }

    private static void monk(String what, WithNumber call) {
        noSuch(SOME, what, call, Integer.MIN_VALUE, -2, -1, 2, 3, 5, 6, 7, 24, Integer.MAX_VALUE);
        noSuch(NOBODY, what, call, -1, 0, 1, 6);
    }

    // 'no such ENTRY (as everywhere)'
    private static void noSuchEntry() {
        entry("entry", (hall, e) -> hall.entry(e, 0));
        entry("holders", (hall, e) -> hall.holders(e));
        entry("may", (hall, e) -> bit(hall.may(0, e)));
        entry("copy", (hall, e) -> hall.copy(e, 0));
        entry("knot", (hall, e) -> bit(hall.knot(e)));
        entry("comb", (hall, e) -> bit(hall.comb(e)));
        entry("until", (hall, e) -> hall.until(e));
        entry("see", (hall, e) -> hall.see(e, true));
        entry("see that it isn't", (hall, e) -> hall.see(e, false));
    }

    private static void entry(String what, WithNumber call) {
        noSuch(SOME, what, call, Integer.MIN_VALUE, -2, -1, 3, 4, 23, 24, 25, 31, 32, Integer.MAX_VALUE);
        noSuch(NOBODY, what, call, -1, 0, 1, 24);
    }

    // 'NoSuchElementException: not 0 to 7 (as everywhere)'
    private static void noSuchAbout() {
        about("law", (hall, a) -> hall.law(a));
        about("owed", (hall, a) -> hall.owed(a));
        about("believed", (hall, a) -> hall.believed(a));
        about("oldest", (hall, a) -> hall.oldest(3, a));
    }

    private static void about(String what, WithNumber call) {
        noSuch(SOME, what, call, Integer.MIN_VALUE, -2, -1, 8, 9, Integer.MAX_VALUE);
        noSuch(NOBODY, what, call, -1, 8);
        for (int about = 0; about <= 7; about++) {
            int asked = about;
            BeardHall hall = new BeardHall();
            KIT.same(what + " of " + about, call.of(hall, asked), what.equals("owed") ? 0 : -1);
        }
    }

    // 'NoSuchElementException: another what'
    private static void anotherWhat() {
        int[] far = {Integer.MIN_VALUE, -2, -1, Integer.MAX_VALUE};
        noSuch(SOME, "count", (hall, w) -> hall.count(w), far);
        noSuch(SOME, "count", (hall, w) -> hall.count(w), 15, 16);
        noSuch(NOBODY, "count", (hall, w) -> hall.count(w), -1, 15);
        noSuch(SOME, "monk", (hall, w) -> hall.monk(1, w), far);
        noSuch(SOME, "monk", (hall, w) -> hall.monk(0, w), 6, 7);
        noSuch(SOME, "entry", (hall, w) -> hall.entry(2, w), far);
        noSuch(SOME, "entry", (hall, w) -> hall.entry(0, w), 10, 11);
        noSuch(SOME, "amnesty", (hall, w) -> hall.amnesty(0, 0, w), far);
        noSuch(SOME, "amnesty", (hall, w) -> hall.amnesty(0, 0, w), 2, 3);
        noSuch(SOME, "ate", (hall, w) -> hall.ate(0, w), far);
        noSuch(SOME, "ate", (hall, w) -> hall.ate(0, w), 2, 3);
        noSuch(SOME, "game", (hall, w) -> hall.game(w), far);
        noSuch(SOME, "game", (hall, w) -> hall.game(w), 2, 3);
        noSuch(NOBODY, "game", (hall, w) -> hall.game(w), -1, 2);
        noSuch(SOME, "season", (hall, w) -> hall.season(1, 1, w), far);
        noSuch(SOME, "season", (hall, w) -> hall.season(1, 1, w), 3, 4);
        noSuch(NOBODY, "season", (hall, w) -> hall.season(1, 1, w), -1, 3);
        for (int what = 0; what <= 14; what++) {
            int asked = what;
            SOME.harmless("count(" + what + ")", SOME.one().count(what), hall -> hall.count(asked));
        }
    }

    // 'NoSuchElementException: also another day'; 'no such KIND'
    private static void anotherDayOrKind() {
        noSuch(SOME, "week", (hall, d) -> hall.week(0, d), Integer.MIN_VALUE, -3, -2, 7, 8, Integer.MAX_VALUE);
        noSuch(SOME, "oldest", (hall, k) -> hall.oldest(k, 0), Integer.MIN_VALUE, -2, -1, 4, 5, Integer.MAX_VALUE);
        noSuch(NOBODY, "oldest", (hall, k) -> hall.oldest(k, 0), -1, 4);
        noSuch(NOBODY, "oldest of no ABOUT either", (hall, k) -> hall.oldest(k, 8), -1, 0, 3, 4);
    }

    // 'IllegalArgumentException: not 0 to 6', 'not 0 to 9', 'not 0 to 60', 'n' (0 to 40)
    private static void illegalNumbers() {
        illegal("barbers", (hall, n) -> hall.barbers(n), Integer.MIN_VALUE, -1, 7, 8, Integer.MAX_VALUE);
        illegal("doomed", (hall, n) -> hall.doomed(n), Integer.MIN_VALUE, -1, 61, 62, Integer.MAX_VALUE);
        for (int what = 0; what <= 2; what++) {
            int told = what;
            illegal("season", (hall, n) -> hall.season(7, n, told), Integer.MIN_VALUE, -1, 41, 42, Integer.MAX_VALUE);
        }
        for (int wide : new int[] {Integer.MIN_VALUE, -1, 10, 11, Integer.MAX_VALUE}) {
            SOME.illegal("amnesty " + wide + " wide", hall -> hall.amnesty(0, wide, 0));
            SOME.illegal("amnesty " + wide + " wide", hall -> hall.amnesty(1, wide, 1));
        }
        for (int many = 0; many <= 6; many++) {
            KIT.same("barbers(" + many + ") of nobody", new BeardHall().barbers(many), 0);
        }
        for (int years = 0; years <= 60; years++) {
            KIT.same("doomed(" + years + ") of nothing", new BeardHall().doomed(years), 0);
        }
        for (int n = 0; n <= 40; n++) {
            KIT.same("season of " + n + " without MONKS", new BeardHall().season(7, n, n % 3), 0);
        }
        for (int wide = 0; wide <= 9; wide++) {
            KIT.same("amnesty " + wide + " wide", KIT.hall("monk 1 1;").amnesty(0, wide, wide % 2), 0);
        }
    }

    // 'IllegalArgumentException (behind that)'; 'NoSuchElementException (ahead): no such ENTRY'
    private static void whichIsAhead() {
        SOME.noSuch("amnesty of no MONK, 10 wide", hall -> hall.amnesty(2, 10, 0));
        SOME.noSuch("amnesty of another what, -1 wide", hall -> hall.amnesty(0, -1, 2));
        SOME.noSuch("amnesty of nothing at all", hall -> hall.amnesty(-1, 10, -1));
        SOME.noSuch("season of another what, 41 YEARS", hall -> hall.season(0, 41, 3));
        SOME.noSuch("season of another what, -1 YEARS", hall -> hall.season(0, -1, -1));
        Twins full = new Twins(KIT, "monk 1 9;note 0 0 0 0;", hall -> {
            for (int i = 0; i < 8; i++) {
                hall.see(0, true);
            }
        });
        full.noSuch("see of no ENTRY where there are 8", hall -> hall.see(1, true));
        full.noSuch("see of no ENTRY where there are 8", hall -> hall.see(-1, false));
        full.refused("see where there are 8", Twins.SEEN, -1, hall -> hall.see(0, true));
    }

    // 'no such ENTRY': also one that is no ENTRY any more, by what was UNDONE
    private static void undoneNumbers() {
        Twins undone = new Twins(KIT, "monk 1 9;monk 1 9;note 0 0 0 0;", hall -> {
            hall.braid(0, 0, 0, 7);
            hall.copy(1, 1);
            hall.undo();
            hall.undo();
        });
        undone.noSuch("entry", hall -> hall.entry(1, 0));
        undone.noSuch("holders", hall -> hall.holders(1));
        undone.noSuch("may", hall -> bit(hall.may(0, 2)));
        undone.noSuch("copy", hall -> hall.copy(1, 1));
        undone.noSuch("knot", hall -> bit(hall.knot(1)));
        undone.noSuch("comb", hall -> bit(hall.comb(2)));
        undone.noSuch("until", hall -> hall.until(1));
        undone.noSuch("see", hall -> hall.see(2, false));
        BeardHall hall = undone.one();
        KIT.same("the number comes again", hall.braid(1, 3, 5, 9), 1);
        int[] due = {3, 1, 0, 5, 9, 0, 0, 1, 1, 0};
        for (int what = 0; what < due.length; what++) {
            KIT.same("entry(1, " + what + ")", hall.entry(1, what), due[what]);
        }
    }
}
