/** Promises 10 to 18: years, braid, copy, knot, comb, shave, moths, die, undo. */
public final class ActsTest {
    private static final TestKit KIT = new TestKit("ActsTest");

    public static void main(String[] args) {
        years();
        growing();
        braiding();
        copying();
        knotting();
        combing();
        shaving();
        moths();
        dying();
        undoing();
        fortyActs();
        KIT.end();
    }

    private static void refused(BeardHall hall, int due) {
        KIT.same("STATUS 1", hall.count(13), due);
    }

    private static void years() {
        BeardHall hall = new BeardHall();
        KIT.same("years(0)", hall.years(0), -1);
        KIT.same("years(31)", hall.years(31), -1);
        KIT.same("years(-1)", hall.years(-1), -1);
        KIT.same("years(max)", hall.years(Integer.MAX_VALUE), -1);
        KIT.same("years(min)", hall.years(Integer.MIN_VALUE), -1);
        refused(hall, 5);
        for (int year = 30; year <= 990; year += 30) {
            KIT.same("years(30)", hall.years(30), year);
        }
        KIT.same("above 999", hall.years(10), -1);
        KIT.same("to 999", hall.years(9), 999);
        KIT.same("above 999", hall.years(1), -1);
        refused(hall, 7);
        KIT.same("ACTS", hall.count(9), 34);
    }

    private static void growing() {
        BeardHall hall = KIT.hall("knee 8;monk 1 5;clerk 1 2;bald 1 0;plait 1 8;note 0 5 0 0;note 0 3 0 0;note 3 8 0 0;note 2 0 0 0;");
        hall.years(3);
        int[] lengths = {8, 5, 0, 8};
        for (int monk = 0; monk < 4; monk++) {
            KIT.same("LENGTH of " + monk, hall.monk(monk, 2), lengths[monk]);
        }
        int[] there = {1, 1, 0, 0};
        for (int entry = 0; entry < 4; entry++) {
            KIT.same("THERE " + entry, hall.entry(entry, 8), there[entry]);
        }
        hall.years(1);
        KIT.same("a breadth beyond the knee", hall.entry(0, 8), 0);
    }

    private static void braiding() {
        BeardHall hall = KIT.hall("monk 1 5;bald 1 0;");
        hall.years(7);
        KIT.same("braid", hall.braid(0, 2, 7, 999), 0);
        int[] due = {2, 0, 7, 7, 999, 0, 0, 0, 1, 0};
        for (int what = 0; what < due.length; what++) {
            KIT.same("entry(0, " + what + ")", hall.entry(0, what), due[what]);
        }
        KIT.same("no such kind", hall.braid(0, 4, 0, 0), -1);
        KIT.same("no such kind", hall.braid(0, -1, 0, 0), -1);
        KIT.same("about no such thing", hall.braid(0, 0, 8, 0), -1);
        KIT.same("about no such thing", hall.braid(0, 0, -1, 0), -1);
        KIT.same("no such value", hall.braid(0, 0, 0, 1000), -1);
        KIT.same("no such value", hall.braid(0, 0, 0, -1), -1);
        refused(hall, 6);
        KIT.noSuch("no such monk", () -> hall.braid(2, 9, 0, 0));
        KIT.noSuch("no such monk", () -> hall.braid(-1, 0, 0, 0));
        refused(hall, 6);
        for (int entry = 1; entry < 24; entry++) {
            KIT.same("braid", hall.braid(1, 0, 0, 0), entry);
        }
        KIT.same("there are 24", hall.braid(0, 0, 0, 0), -1);
        hall.undo();
        hall.die(1);
        KIT.same("he is dead", hall.braid(1, 0, 0, 0), -1);
        KIT.same("another isn't", hall.braid(0, 0, 0, 0), 23);
        refused(hall, 8);
    }

    private static void copying() {
        BeardHall hall = KIT.hall("monk 1 5;monk 1 5;plait 1 5;bald 1 0;debt 0 3 4 50 dyed 6 knot;note 1 9 0 0;");
        hall.years(1);
        KIT.same("copy", hall.copy(0, 2), 2);
        int[] due = {1, 2, 1, 4, 50, 6, 0, 0, 1, 0};
        for (int what = 0; what < due.length; what++) {
            KIT.same("entry(2, " + what + ")", hall.entry(2, what), due[what]);
        }
        KIT.same("a copy of the copy", hall.copy(2, 3), 3);
        KIT.same("its RECORD", hall.entry(3, 7), 0);
        KIT.same("who holds it", hall.copy(2, 0), -1);
        KIT.same("himself", hall.copy(0, 0), -1);
        KIT.same("what is gone", hall.copy(1, 0), -1);
        hall.die(1);
        KIT.same("the dead", hall.copy(0, 1), -1);
        refused(hall, 4);
        KIT.noSuch("no such entry", () -> hall.copy(4, 0));
        KIT.noSuch("no such entry", () -> hall.copy(-1, 0));
        KIT.noSuch("no such monk", () -> hall.copy(0, 4));
        KIT.noSuch("no such monk", () -> hall.copy(0, -1));
        hall.years(1);
        KIT.same("the bald one lost it", hall.holders(0), 5);
        KIT.same("so he may have it again", hall.copy(0, 3), 4);
        hall.die(0);
        hall.shave(2, 0);
        KIT.same("from the hair of the dead", hall.copy(0, 2), 5);
        for (int entry = 6; entry < 24; entry++) {
            hall.braid(2, 0, 0, 0);
        }
        hall.years(1);
        KIT.same("there are 24", hall.copy(0, 3), -1);
        refused(hall, 5);
    }

    private static void knotting() {
        BeardHall hall = KIT.hall("monk 1 5;note 0 0 0 0;note 0 0 0 0;note 0 6 0 0;");
        KIT.same("knot", hall.knot(0), true);
        KIT.same("KNOTTED", hall.entry(0, 6), 1);
        KIT.same("it has one", hall.knot(0), false);
        KIT.same("it isn't there", hall.knot(2), false);
        hall.die(0);
        KIT.same("he is dead", hall.knot(1), false);
        refused(hall, 3);
        KIT.noSuch("no such entry", () -> hall.knot(3));
        KIT.noSuch("no such entry", () -> hall.knot(-1));
        hall.undo();
        hall.undo();
        KIT.same("undone", hall.entry(0, 6), 0);
    }

    private static void combing() {
        BeardHall hall = KIT.hall("monk 1 5;plait 1 5;note 0 0 0 0 knot;note 1 0 0 0;note 0 6 0 0;note 0 1 0 0;");
        KIT.same("it has a knot", hall.comb(0), false);
        KIT.same("comb", hall.comb(1), true);
        KIT.same("it is gone", hall.entry(1, 8), 0);
        KIT.same("it is gone already", hall.comb(1), false);
        KIT.same("it never was", hall.comb(2), false);
        hall.die(0);
        KIT.same("he is dead", hall.comb(3), false);
        refused(hall, 4);
        KIT.noSuch("no such entry", () -> hall.comb(4));
        KIT.noSuch("no such entry", () -> hall.comb(-1));
    }

    private static void shaving() {
        BeardHall hall = KIT.hall("monk 1 9;plait 1 9;note 0 0 0 0;note 0 4 0 0 knot;note 0 5 0 0 knot;note 1 7 0 0;note 0 20 0 0;");
        KIT.same("not less", hall.shave(0, 9), -1);
        KIT.same("more", hall.shave(0, 10), -1);
        KIT.same("below 0", hall.shave(0, -1), -1);
        refused(hall, 3);
        KIT.noSuch("no such monk", () -> hall.shave(2, 0));
        KIT.noSuch("no such monk", () -> hall.shave(-1, 0));
        KIT.same("shave to 8", hall.shave(0, 8), 0);
        KIT.same("shave to 4", hall.shave(0, 4), 1);
        KIT.same("LENGTH", hall.monk(0, 2), 4);
        KIT.same("THERE at 4", hall.entry(1, 8), 1);
        hall.years(1);
        KIT.same("it grows with it", hall.entry(1, 8), 1);
        KIT.same("GONE for good", hall.entry(2, 8), 0);
        KIT.same("a plait", hall.shave(1, 0), 1);
        hall.die(0);
        KIT.same("the dead", hall.shave(0, 0), 2);
        hall.years(1);
        KIT.same("their hair doesn't grow", hall.monk(0, 2), 0);
    }

    private static void moths() {
        BeardHall hall = KIT.hall("monk 1 20;plait 1 9;note 0 0 0 0;note 0 4 0 0;note 0 5 0 0 knot;note 0 6 0 0;note 1 4 0 0;");
        KIT.same("from below 0", hall.moths(0, -1, 5), -1);
        KIT.same("to above 60", hall.moths(0, 0, 61), -1);
        KIT.same("from above 60", hall.moths(0, 61, 61), -1);
        KIT.same("to below from", hall.moths(0, 5, 4), -1);
        refused(hall, 4);
        KIT.noSuch("no such monk", () -> hall.moths(2, 0, 0));
        KIT.noSuch("no such monk", () -> hall.moths(-1, 0, 0));
        KIT.same("plaits they leave", hall.moths(1, 0, 60), 0);
        KIT.same("an ACT all the same", hall.count(9), 1);
        KIT.same("4 to 6", hall.moths(0, 4, 6), 2);
        KIT.same("what has a knot stays", hall.entry(2, 8), 1);
        KIT.same("once more", hall.moths(0, 4, 6), 0);
        hall.die(0);
        hall.years(9);
        KIT.same("the dead at 0", hall.moths(0, 0, 0), 1);
        KIT.same("all", hall.moths(0, 0, 60), 0);
        KIT.same("ACTS", hall.count(9), 7);
    }

    private static void dying() {
        BeardHall hall = KIT.hall("knee 9;monk 10 5;monk 10 9;note 0 5 0 0;note 1 9 0 0;");
        KIT.same("die", hall.die(0), true);
        KIT.same("he is dead", hall.die(0), false);
        refused(hall, 1);
        hall.years(30);
        KIT.same("AGE as he died", hall.monk(0, 1), 10);
        KIT.same("LENGTH as he died", hall.monk(0, 2), 5);
        KIT.same("breadths as he died", hall.entry(0, 9), 5);
        KIT.same("nothing is lost by years", hall.entry(0, 8), 1);
        KIT.same("but of the living", hall.entry(1, 8), 0);
        hall.die(1);
        KIT.same("both", hall.count(8), 3);
        KIT.same("AGE", hall.monk(1, 1), 40);
        KIT.noSuch("no such monk", () -> hall.die(2));
        KIT.noSuch("no such monk", () -> hall.die(-1));
    }

    private static String state(BeardHall hall) {
        StringBuilder state = new StringBuilder();
        for (int what = 0; what < 9; what++) {
            state.append(hall.count(what)).append(' ');
        }
        for (int monk = 0; monk < hall.count(0); monk++) {
            for (int what = 0; what < 6; what++) {
                state.append(hall.monk(monk, what)).append(' ');
            }
        }
        for (int entry = 0; entry < hall.count(1); entry++) {
            for (int what = 0; what < 10; what++) {
                state.append(hall.entry(entry, what)).append(' ');
            }
        }
        return state.toString();
    }

    private static void undoing() {
        BeardHall hall = KIT.hall("knee 30;monk 50 20;clerk 20 5;monk 70 20;note 0 4 0 7;debt 1 3 2 9;law 2 5 1 8 knot;");
        KIT.same("nothing to undo", hall.undo(), -1);
        KIT.same("which is no refused ACT", hall.count(13), 0);
        String[] states = new String[10];
        states[0] = state(hall);
        hall.years(2);
        states[1] = state(hall);
        hall.braid(0, 1, 2, 3);
        states[2] = state(hall);
        hall.copy(3, 1);
        states[3] = state(hall);
        hall.knot(3);
        states[4] = state(hall);
        hall.comb(4);
        states[5] = state(hall);
        hall.shave(2, 3);
        states[6] = state(hall);
        hall.moths(0, 0, 10);
        states[7] = state(hall);
        hall.die(0);
        states[8] = state(hall);
        hall.years(30);
        for (int left = 8; left >= 0; left--) {
            KIT.same("undo", hall.undo(), left);
            KIT.same("as it was ahead of ACT " + left, state(hall).equals(states[left]), true);
        }
        KIT.same("undo", hall.undo(), -1);
        KIT.same("the number is free again", hall.braid(2, 3, 7, 1), 3);
        KIT.same("not KNOTTED", hall.entry(3, 6), 0);
        KIT.same("THERE", hall.entry(3, 8), 1);
    }

    private static void fortyActs() {
        BeardHall hall = KIT.hall("monk 50 20;");
        for (int year = 1; year <= 45; year++) {
            hall.years(1);
        }
        KIT.same("ACTS that are kept", hall.count(9), 40);
        for (int left = 39; left >= 0; left--) {
            KIT.same("undo", hall.undo(), left);
            KIT.same("the YEAR", hall.count(5), left + 5);
        }
        KIT.same("undo", hall.undo(), -1);
        KIT.same("the YEAR", hall.count(5), 5);
    }
}
