/** Promises 35 to 41: see, ate, forget, game, season, image, restore. */
public final class SeenTest {
    private static final TestKit KIT = new TestKit("SeenTest");

    public static void main(String[] args) {
        seeing();
        eating();
        undoneEntries();
        game();
        seasons();
        seasonByHand();
        images();
        KIT.end();
    }

    private static void seeing() {
        BeardHall hall = KIT.hall("monk 1 9;note 0 0 0 0;");
        KIT.same("nothing to forget", hall.forget(), -1);
        for (int many = 1; many <= 8; many++) {
            KIT.same("see", hall.see(0, true), many);
        }
        KIT.same("there are 8", hall.see(0, true), -1);
        KIT.same("STATUS 2", hall.count(14), 1);
        KIT.noSuch("no such entry, ahead", () -> hall.see(1, true));
        KIT.noSuch("no such entry", () -> hall.see(-1, true));
        KIT.same("STATUS 2", hall.count(14), 1);
        KIT.same("SEEN", hall.count(10), 8);
        KIT.same("forget", hall.forget(), 7);
        KIT.same("see", hall.see(0, false), 8);
        KIT.same("no ACT", hall.count(9), 0);
    }

    private static void eating() {
        BeardHall hall = KIT.hall("monk 1 30;plait 1 9;note 0 3 0 0;note 0 7 0 0;note 0 9 0 0 knot;note 0 25 0 0;note 1 2 0 0;note 0 35 0 0;");
        KIT.same("all, if nothing is seen", hall.ate(0, 0), 231);
        KIT.same("the first", hall.ate(0, 1), 0);
        hall.see(5, false);
        KIT.same("what is gone", hall.ate(1, 0), 231);
        hall.see(0, true);
        hall.see(1, false);
        KIT.same("7 but not 3", hall.ate(0, 0), 4 * 14);
        KIT.same("the first", hall.ate(0, 1), 407);
        KIT.same("not by a plait's moths", hall.ate(1, 0), 0);
        KIT.same("none", hall.ate(1, 1), -1);
        hall.forget();
        hall.see(2, false);
        KIT.same("not what has a knot", hall.ate(0, 0), 0);
        hall.forget();
        hall.see(3, false);
        KIT.same("not beyond 20", hall.ate(0, 1), -1);
        hall.forget();
        hall.forget();
        hall.see(0, false);
        hall.die(0);
        hall.years(5);
        KIT.same("of the dead", hall.ate(0, 1), 3);
        KIT.same("nothing was eaten", hall.entry(0, 8), 1);
        BeardHall far = KIT.hall("monk 1 30;note 0 19 0 0;note 0 20 0 0;");
        far.see(0, true);
        far.see(1, false);
        KIT.same("20 but not 19", far.ate(0, 0), 1);
        KIT.same("the first", far.ate(0, 1), 2020);
        KIT.noSuch("ate(0, 2)", () -> hall.ate(0, 2));
        KIT.noSuch("ate(0, -1)", () -> hall.ate(0, -1));
        KIT.noSuch("ate(2, 0)", () -> hall.ate(2, 0));
        KIT.noSuch("ate(-1, 0)", () -> hall.ate(-1, 0));
    }

    private static void undoneEntries() {
        BeardHall hall = KIT.hall("monk 1 30;note 0 3 0 0;");
        hall.braid(0, 0, 0, 0);
        hall.see(1, true);
        KIT.same("it must stay", hall.ate(0, 0), 231 - 21);
        hall.undo();
        KIT.same("it is no ENTRY any more", hall.ate(0, 0), 0);
        KIT.same("but SEEN", hall.count(10), 1);
        hall.forget();
        hall.braid(0, 0, 0, 0);
        hall.see(1, false);
        hall.undo();
        KIT.same("which isn't there", hall.ate(0, 0), 231);
    }

    private static void game() {
        BeardHall hall = KIT.hall("monk 1 9;plait 1 9;monk 1 9;law 0 1 0 10;debt 0 1 0 10;law 2 1 0 20;law 2 0 0 99;");
        // laws: {0} 10, {2} 20, both 30; debts: 10 with 0 among them
        KIT.same("couples that rest", hall.game(0), 2);
        KIT.same("the first", hall.game(1), 2);
        KIT.noSuch("game(2)", () -> hall.game(2));
        KIT.noSuch("game(-1)", () -> hall.game(-1));
        BeardHall plaits = KIT.hall("plait 1 9;law 0 1 0 10;");
        KIT.same("plaits alone", plaits.game(0), 0);
        KIT.same("none", plaits.game(1), -1);
        BeardHall nothing = KIT.hall("plait 1 9;monk 1 9;monk 1 9;");
        KIT.same("all rest", nothing.game(0), 4);
        KIT.same("the first", nothing.game(1), 11);
        // a record that both hold is lost by both barbers alone
        BeardHall shared = KIT.hall("monk 1 9;monk 1 9;law 0 1 0 10;copy 0 1 1;debt 1 1 0 5;");
        KIT.same("shared", shared.game(0), 2);
        KIT.same("the first", shared.game(1), 1);
        // where both hold all, each barber needs the other
        BeardHall both = KIT.hall("monk 1 9;monk 1 9;law 0 1 0 10;copy 0 1 1;debt 0 1 0 7;copy 2 1 1;");
        KIT.same("both are needed by both", both.game(0), 2);
        KIT.same("the first", both.game(1), 1);
    }

    private static int draw(int[] seed, int many) {
        seed[0] = seed[0] * 1103515245 + 12345;
        return (seed[0] >>> 16 & 32767) % many;
    }

    private static void seasons() {
        String text = "knee 20;monk 70 10;clerk 30 9;bald 20 3;plait 50 15;monk 40 12;law 0 3 1 100;law 4 3 1 200;debt 0 8 1 50 knot;"
            + "copy 2 3 4;grant 3 2 1 20;note 1 6 2 7;law 4 5 1 300;debt 4 1 2 40;";
        for (int seed = -3; seed < 30; seed++) {
            int n = Math.floorMod(seed * 7, 41);
            BeardHall asked = KIT.hall(text);
            BeardHall lived = KIT.hall(text);
            int[] draws = {seed * 1000003};
            int years = 0;
            for (int i = 0; i < n; i++) {
                int before = lived.count(7);
                int monk = draw(draws, 5);
                int what = draw(draws, 3);
                if (what == 0) {
                    int from = draw(draws, 20);
                    lived.moths(monk, from, from + 2);
                } else if (what == 1) {
                    lived.shave(monk, draw(draws, 20));
                }
                lived.years(1);
                if (lived.count(7) < before) {
                    years++;
                }
            }
            int owed = 0;
            for (int about = 0; about < 8; about++) {
                owed += lived.owed(about);
            }
            KIT.same("season RECORDS", asked.season(seed * 1000003, n, 0), lived.count(7));
            KIT.same("season OWED", asked.season(seed * 1000003, n, 1), owed);
            KIT.same("season YEARS", asked.season(seed * 1000003, n, 2), years);
            KIT.same("nothing is so", asked.count(5) + asked.count(9), 0);
        }
    }

    private static void seasonByHand() {
        BeardHall hall = KIT.hall("bald 1 0;note 0 0 0 0;debt 0 0 0 5;");
        KIT.same("0 YEARS", hall.season(1, 0, 0), 2);
        KIT.same("OWED", hall.season(1, 0, 1), 5);
        KIT.same("a year", hall.season(1, 1, 0), 0);
        KIT.same("OWED", hall.season(1, 1, 1), 0);
        KIT.same("both in one YEAR", hall.season(1, 40, 2), 1);
        KIT.noSuch("season(0, 41, 3)", () -> hall.season(0, 41, 3));
        KIT.noSuch("season(0, 0, -1)", () -> hall.season(0, 0, -1));
        KIT.illegal("season(0, 41, 0)", () -> hall.season(0, 41, 0));
        KIT.illegal("season(0, -1, 2)", () -> hall.season(0, -1, 2));
        BeardHall late = KIT.hall("monk 1 0;");
        for (int i = 0; i < 33; i++) {
            late.years(30);
        }
        late.years(9);
        late.braid(0, 1, 0, 9);
        KIT.same("beyond YEAR 999", late.season(5, 0, 1), 9);
        KIT.same("beyond YEAR 999 none stays longer than its hair", late.season(5, 40, 2) <= 1, true);
    }

    private static void images() {
        BeardHall hall = KIT.hall("monk 1 9;monk 2 9;note 0 0 0 0;");
        KIT.same("none", hall.restore(), false);
        hall.years(1);
        hall.braid(1, 0, 0, 7);
        hall.see(0, true);
        hall.comb(0);
        hall.years(0);
        hall.image();
        hall.undo();
        hall.undo();
        hall.undo();
        hall.years(2);
        hall.braid(0, 3, 3, 3);
        hall.knot(1);
        hall.shave(0, 1);
        hall.die(1);
        hall.see(0, false);
        hall.years(0);
        TestKit.archive(hall, "x");
        TestKit.feed(hall, "x");
        for (int times = 0; times < 2; times++) {
            KIT.same("restore", hall.restore(), true);
            int[] due = {2, 2, 40, 60, 3, 1, 1, 1, 0, 3, 1, 20, 0, 1, 0};
            for (int what = 0; what < due.length; what++) {
                KIT.same("count(" + what + ") as the image", hall.count(what), due[what]);
            }
            KIT.same("LENGTH", hall.monk(0, 2), 10);
            int[] entry = {0, 1, 1, 0, 7, 0, 0, 1, 1, 0};
            for (int what = 0; what < entry.length; what++) {
                KIT.same("entry(1, " + what + ") as the image", hall.entry(1, what), entry[what]);
            }
            KIT.same("the place of the latest fault stays", hall.fault(), 0);
            KIT.same("what was SEEN", hall.ate(1, 0), 0);
            KIT.same("its ACTS", hall.undo(), 2);
            KIT.same("its ACTS", hall.entry(0, 8), 1);
            hall.years(5);
        }
        hall.image();
        hall.years(1);
        hall.restore();
        KIT.same("in place of another one", hall.count(5), 6);
    }
}
