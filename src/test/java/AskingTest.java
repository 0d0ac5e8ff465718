/** Promises 19 to 34: what is asked of ENTRIES that are THERE. */
public final class AskingTest {
    private static final TestKit KIT = new TestKit("AskingTest");

    public static void main(String[] args) {
        law();
        rivals();
        owed();
        cover();
        alone();
        barbers();
        shortest();
        amnesty();
        week();
        oldest();
        believed();
        until();
        doomed();
        safest();
        heir();
        lice();
        KIT.end();
    }

    private static void law() {
        BeardHall hall = KIT.hall("monk 1 9;monk 1 9;law 0 3 1 100;law 1 4 1 200;law 0 9 2 5;debt 0 0 1 7;law 1 10 3 6;");
        KIT.same("the latest", hall.law(1), 100);
        KIT.same("one", hall.law(2), 5);
        KIT.same("none that is there", hall.law(3), -1);
        KIT.same("none", hall.law(0), -1);
        hall.copy(1, 0);
        KIT.same("a copy is of its own YEAR", hall.law(1), 200);
        hall.braid(1, 0, 1, 200);
        KIT.same("two that say the same", hall.law(1), 200);
        hall.braid(1, 0, 1, 201);
        KIT.same("contested", hall.law(1), -2);
        hall.years(1);
        hall.braid(0, 0, 1, 0);
        KIT.same("a later one", hall.law(1), 0);
        KIT.noSuch("law(8)", () -> hall.law(8));
        KIT.noSuch("law(-1)", () -> hall.law(-1));
    }

    private static void rivals() {
        BeardHall hall = KIT.hall("monk 1 9;monk 1 9;monk 1 9;monk 1 9;law 0 3 1 100;law 0 3 1 200;law 1 3 1 100;law 2 3 1 100;law 3 3 2 7;law 3 2 1 7;");
        // 0 with 1 and 2; 0's own two are no couple, 1 and 2 agree, 3 is of another YEAR and thing
        KIT.same("rivals", hall.rivals(), 2);
        hall.comb(1);
        KIT.same("they agree", hall.rivals(), 0);
        hall.braid(3, 0, 1, 5);
        hall.braid(2, 0, 1, 5);
        hall.braid(1, 0, 1, 6);
        hall.braid(1, 0, 1, 7);
        KIT.same("a couple counts once", hall.rivals(), 2);
        KIT.same("whoever is told first", KIT.hall("monk 1 9;monk 1 9;law 1 0 0 1;law 0 0 0 2;").rivals(), 1);
    }

    private static void owed() {
        BeardHall hall = KIT.hall("monk 1 9;monk 1 9;debt 0 0 1 50;copy 0 1 0;grant 0 0 1 80;debt 1 0 2 9;debt 0 10 1 7;law 0 0 1 500;note 0 0 1 600;");
        KIT.same("each RECORD once", hall.owed(1), -30);
        KIT.same("about 2", hall.owed(2), 9);
        KIT.same("about 0", hall.owed(0), 0);
        hall.comb(0);
        KIT.same("the copy holds it", hall.owed(1), -30);
        hall.comb(1);
        KIT.same("no more", hall.owed(1), -80);
        KIT.noSuch("owed(8)", () -> hall.owed(8));
        KIT.noSuch("owed(-1)", () -> hall.owed(-1));
    }

    private static void cover() {
        BeardHall hall = KIT.hall("monk 1 9;monk 1 9;monk 1 9;note 0 0 0 0;note 0 0 0 1;note 1 0 0 2;copy 0 2 0;copy 2 2 0;");
        KIT.same("two of three: 0 and 1 are least", hall.cover(), 3);
        hall.copy(1, 2);
        KIT.same("one alone", hall.cover(), 4);
        hall.die(2);
        KIT.same("dead or not", hall.cover(), 4);
        hall.shave(0, 0);
        hall.moths(2, 0, 60);
        KIT.same("what is there", hall.cover(), 3);
        KIT.same("nothing to hold", KIT.hall("monk 1 9;note 0 20 0 0;").cover(), 0);
    }

    private static void alone() {
        BeardHall hall = KIT.hall("monk 1 9;monk 1 9;note 0 0 0 0;note 0 0 0 1;note 1 20 0 2;copy 0 1 0;");
        KIT.same("alone", hall.alone(), 1);
        hall.comb(0);
        KIT.same("by the copy alone", hall.alone(), 2);
    }

    private static void barbers() {
        BeardHall hall = KIT.hall("monk 1 9;monk 1 9;plait 1 9;monk 1 9;note 0 0 0 0;note 0 0 0 0;note 1 1 0 0;note 2 1 0 0;note 2 1 0 0;note 3 1 0 0;copy 5 1 2;");
        KIT.same("none", hall.barbers(0), 0);
        KIT.same("what is there at 0 stays", hall.barbers(1), 2);
        KIT.same("two", hall.barbers(2), 10);
        KIT.same("three", hall.barbers(3), 11);
        KIT.same("all but the plait", hall.barbers(6), 11);
        hall.comb(2);
        KIT.same("of like ones the least", hall.barbers(1), 1);
        KIT.illegal("barbers(7)", () -> hall.barbers(7));
        KIT.illegal("barbers(-1)", () -> hall.barbers(-1));
        KIT.same("plaits alone", KIT.hall("plait 1 9;note 0 1 0 0;").barbers(3), 0);
    }

    private static void shortest() {
        BeardHall hall = KIT.hall("monk 1 9;monk 1 9;plait 1 9;note 0 8 0 0;note 0 5 0 0 knot;copy 0 1 2;note 2 3 0 0;");
        KIT.same("another holds one", hall.shortest(0), 5);
        KIT.same("held by 0 too", hall.shortest(1), 0);
        KIT.same("a plait", hall.shortest(2), 3);
        hall.comb(0);
        KIT.same("now alone", hall.shortest(1), 2);
        KIT.noSuch("shortest(3)", () -> hall.shortest(3));
        KIT.noSuch("shortest(-1)", () -> hall.shortest(-1));
    }

    private static void amnesty() {
        BeardHall hall = KIT.hall("knee 60;monk 1 60;monk 1 60;plait 1 60;debt 0 3 0 10;debt 0 5 0 10;debt 0 60 0 15;debt 0 4 0 90 knot;"
            + "debt 0 20 0 99;copy 4 1 0;law 0 30 0 500;debt 2 1 0 7;");
        KIT.same("one breadth", hall.amnesty(0, 0, 0), 15);
        KIT.same("its breadth", hall.amnesty(0, 0, 1), 60);
        KIT.same("two more", hall.amnesty(0, 2, 0), 20);
        KIT.same("from 3", hall.amnesty(0, 2, 1), 3);
        KIT.same("nine more", hall.amnesty(0, 9, 1), 0);
        KIT.same("held twice", hall.amnesty(1, 9, 0), 0);
        KIT.same("from 0, if nothing is gained", hall.amnesty(1, 9, 1), 0);
        KIT.same("plaits they leave", hall.amnesty(2, 9, 0), 0);
        KIT.illegal("amnesty(0, 10, 0)", () -> hall.amnesty(0, 10, 0));
        KIT.illegal("amnesty(0, -1, 1)", () -> hall.amnesty(0, -1, 1));
        KIT.noSuch("amnesty(0, 10, 2)", () -> hall.amnesty(0, 10, 2));
        KIT.noSuch("amnesty(0, 0, -1)", () -> hall.amnesty(0, 0, -1));
        KIT.noSuch("amnesty(3, 10, 0)", () -> hall.amnesty(3, 10, 0));
        KIT.noSuch("amnesty(-1, 0, 0)", () -> hall.amnesty(-1, 0, 0));
    }

    private static void week() {
        BeardHall hall = KIT.hall("daily 2;monk 1 20;note 0 0 0 0;note 0 1 0 0;note 0 2 0 0;note 0 13 0 0;note 0 14 0 0;note 0 20 0 0;note 0 21 0 0;");
        int[] due = {2, 2, 1, 0, 0, 0, 0, 1};
        for (int day = -1; day <= 6; day++) {
            KIT.same("week(0, " + day + ")", hall.week(0, day), due[day + 1]);
        }
        hall.die(0);
        hall.years(10);
        KIT.same("of the dead", hall.week(0, 0), 2);
        KIT.noSuch("week(0, 7)", () -> hall.week(0, 7));
        KIT.noSuch("week(0, -2)", () -> hall.week(0, -2));
        KIT.noSuch("week(1, 0)", () -> hall.week(1, 0));
        KIT.noSuch("week(-1, 0)", () -> hall.week(-1, 0));
    }

    private static void oldest() {
        BeardHall hall = KIT.hall("monk 1 9;monk 1 9;note 0 3 1 0;note 1 5 1 0;note 0 5 1 0;note 0 10 1 0;debt 0 9 1 0;copy 0 1 7;");
        KIT.same("of the earliest YEAR the copy", hall.oldest(3, 1), 5);
        hall.comb(5);
        KIT.same("of like ones the least", hall.oldest(3, 1), 1);
        KIT.same("a debt", hall.oldest(1, 1), 4);
        KIT.same("none", hall.oldest(3, 2), -1);
        KIT.noSuch("oldest(4, 0)", () -> hall.oldest(4, 0));
        KIT.noSuch("oldest(-1, 0)", () -> hall.oldest(-1, 0));
        KIT.noSuch("oldest(0, 8)", () -> hall.oldest(0, 8));
        KIT.noSuch("oldest(0, -1)", () -> hall.oldest(0, -1));
    }

    private static void believed() {
        BeardHall hall = KIT.hall("monk 1 9;monk 1 9;law 0 3 1 300;law 0 2 1 300;law 0 1 1 300;law 1 1 1 200;note 1 0 1 1;law 0 0 2 0;");
        KIT.same("each VALUE once for each", hall.believed(1), 200);
        hall.copy(0, 1);
        KIT.same("that most hold", hall.believed(1), 300);
        KIT.same("0 is a VALUE", hall.believed(2), 0);
        KIT.same("none", hall.believed(3), -1);
        KIT.noSuch("believed(8)", () -> hall.believed(8));
        KIT.noSuch("believed(-1)", () -> hall.believed(-1));
    }

    private static void until() {
        BeardHall hall = KIT.hall("knee 9;monk 1 3;clerk 1 5;bald 1 0;note 0 3 0 0;note 1 5 0 0;note 2 0 0 0;note 0 4 0 0;");
        KIT.same("until(0)", hall.until(0), 6);
        KIT.same("until(1)", hall.until(1), 0);
        KIT.same("until(2)", hall.until(2), 0);
        KIT.same("gone", hall.until(3), -1);
        hall.years(6);
        KIT.same("there still", hall.entry(0, 8), 1);
        KIT.same("for 0 more", hall.until(0), 0);
        hall.die(0);
        KIT.same("without end", hall.until(0), -2);
        KIT.same("but gone", hall.until(3), -1);
        KIT.noSuch("until(4)", () -> hall.until(4));
        KIT.noSuch("until(-1)", () -> hall.until(-1));
    }

    private static void doomed() {
        BeardHall hall = KIT.hall("knee 9;monk 1 9;monk 1 9;note 0 9 0 0;note 0 5 0 0;copy 1 1 1;note 1 8 0 0;note 0 20 0 0;");
        int[] due = {0, 1, 2, 2, 2, 2, 2, 2, 2, 3, 3};
        for (int years = 0; years < due.length; years++) {
            KIT.same("doomed(" + years + ")", hall.doomed(years), due[years]);
        }
        hall.die(1);
        KIT.same("not in the hair of the dead", hall.doomed(60), 1);
        KIT.illegal("doomed(61)", () -> hall.doomed(61));
        KIT.illegal("doomed(-1)", () -> hall.doomed(-1));
    }

    private static void safest() {
        BeardHall hall = KIT.hall("bald 1 0;clerk 1 5;monk 1 0;plait 1 40;");
        KIT.same("of like ones the least", hall.safest(), 2);
        hall.die(2);
        KIT.same("a plait", hall.safest(), 3);
        hall.die(3);
        KIT.same("a clerk", hall.safest(), 1);
        hall.die(1);
        KIT.same("a bald one", hall.safest(), 0);
        hall.die(0);
        KIT.same("nobody is alive", hall.safest(), -1);
        KIT.same("a knee below 5", KIT.hall("knee 4;clerk 1 0;monk 1 0;").safest(), 0);
    }

    private static void heir() {
        BeardHall hall = KIT.hall("monk 1 9;monk 1 9;monk 1 9;note 0 0 0 0;note 0 0 0 0;copy 0 2 0;note 1 0 0 0;note 1 0 0 0;");
        KIT.same("who holds most of his", hall.heir(0), 2);
        KIT.same("of like ones the least", hall.heir(1), 0);
        hall.die(2);
        KIT.same("a living one", hall.heir(0), 1);
        KIT.same("of a dead one", hall.heir(2), 0);
        hall.die(1);
        KIT.same("no other one is alive", hall.heir(0), -1);
        KIT.noSuch("heir(3)", () -> hall.heir(3));
        KIT.noSuch("heir(-1)", () -> hall.heir(-1));
    }

    private static void lice() {
        BeardHall hall = KIT.hall("monk 1 9;monk 1 9;note 0 0 0 96;note 0 3 0 2;note 0 10 0 999;");
        KIT.same("lice", hall.lice(0), (96 + 2 * 4) % 97);
        KIT.same("none", hall.lice(1), 0);
        hall.years(1);
        KIT.same("a year later", hall.lice(0), (96 * 2 + 2 * 5) % 97);
        hall.die(0);
        hall.years(1);
        KIT.same("of the dead", hall.lice(0), (96 * 2 + 2 * 5) % 97);
        KIT.noSuch("lice(2)", () -> hall.lice(2));
        KIT.noSuch("lice(-1)", () -> hall.lice(-1));
    }
}
