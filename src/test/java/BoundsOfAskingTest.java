/**
 * The boundary cases of what is asked of ENTRIES that are THERE (==== 3) and of promises 19 to 34: none, just one, like
 * ones, the least and the most that a number may be. Each method's comment is the sentence that it would find broken.
 */
public final class BoundsOfAskingTest {
    private static final TestKit KIT = new TestKit("BoundsOfAskingTest");

    public static void main(String[] args) {
        lawNone();
        lawLatest();
        lawContested();
        rivals();
        owedOnce();
        owedMost();
        coverFewest();
        coverLeast();
        aloneOne();
        barbersMany();
        barbersFewer();
        barbersAtZero();
        barbersLeast();
        shortest();
        shortestWhole();
        amnestyWide();
        amnestyFirst();
        amnestyNoMore();
        weekDays();
        weekNever();
        oldest();
        believed();
        until();
        untilEnd();
        doomed();
        doomedDead();
        safest();
        heir();
        lice();
        askingChangesNothing();
        KIT.end();
    }

    // ---- law

    // 'none': without one, of other KINDS, ABOUT others, GONE
    private static void lawNone() {
        BeardHall hall = KIT.hall("monk 1 9;debt 0 0 1 5;grant 0 0 1 5;note 0 0 1 5;law 0 10 1 5;law 0 0 0 5;law 0 0 2 6;");
        KIT.same("none", hall.law(1), -1);
        KIT.same("its neighbours", hall.law(0), 5);
        KIT.same("its neighbours", hall.law(2), 6);
        KIT.same("the last one that there can be", hall.law(7), -1);
        hall.comb(4);
        KIT.same("combed out", hall.law(0), -1);
        hall.undo();
        KIT.same("UNDONE", hall.law(0), 5);
    }

    // 'the VALUE of the law of the latest YEAR'
    private static void lawLatest() {
        BeardHall hall = KIT.hall("monk 1 30;monk 1 30;law 0 5 7 1;law 1 4 7 2;law 0 6 7 3;law 0 20 7 999;");
        KIT.same("of the latest", hall.law(7), 2);
        hall.comb(1);
        KIT.same("then the next", hall.law(7), 1);
        hall.copy(3, 1);
        KIT.same("a copy of this YEAR", hall.law(7), 999);
        hall.years(1);
        hall.braid(0, 0, 7, 0);
        KIT.same("VALUE 0", hall.law(7), 0);
        hall.die(0);
        hall.years(1);
        KIT.same("in the hair of the dead", hall.law(7), 0);
        KIT.same("a later YEAR of the living", hall.braid(1, 0, 7, 8), 6);
        KIT.same("stands", hall.law(7), 8);
    }

    // 'CONTESTED, if two of that YEAR differ'
    private static void lawContested() {
        KIT.same("two that differ", KIT.hall("monk 1 9;law 0 1 0 1;law 0 1 0 2;").law(0), -2);
        KIT.same("two alike", KIT.hall("monk 1 9;monk 1 9;law 0 1 0 1;law 1 1 0 1;").law(0), 1);
        KIT.same("two alike and one", KIT.hall("monk 1 9;law 0 1 0 1;law 0 1 0 1;law 0 1 0 0;").law(0), -2);
        KIT.same("one and two alike", KIT.hall("monk 1 9;law 0 1 0 0;law 0 1 0 1;law 0 1 0 0;").law(0), -2);
        KIT.same("of another YEAR", KIT.hall("monk 1 9;law 0 2 0 1;law 0 2 0 2;law 0 1 0 3;law 0 3 0 4;").law(0), 3);
        KIT.same("the later ones first", KIT.hall("monk 1 9;law 0 1 0 3;law 0 2 0 1;law 0 2 0 2;").law(0), 3);
        KIT.same("ABOUT another", KIT.hall("monk 1 9;law 0 1 0 1;law 0 1 1 2;").law(0), 1);
        KIT.same("of another KIND", KIT.hall("monk 1 9;law 0 1 0 1;note 0 1 0 2;").law(0), 1);
        KIT.same("one of them GONE", KIT.hall("monk 1 9;monk 1 0;law 0 1 0 1;law 1 1 0 2;").law(0), 1);
    }

    // 'RIVALS: couples of MONKS who hold laws ABOUT the same of one YEAR with different VALUES.'
    private static void rivals() {
        KIT.same("nobody", new BeardHall().rivals(), 0);
        KIT.same("one alone", KIT.hall("monk 1 9;law 0 1 0 1;law 0 1 0 2;").rivals(), 0);
        KIT.same("a couple", KIT.hall("monk 1 9;monk 1 9;law 0 1 0 1;law 1 1 0 2;").rivals(), 1);
        KIT.same("the other way round", KIT.hall("monk 1 9;monk 1 9;law 1 1 0 1;law 0 1 0 2;").rivals(), 1);
        KIT.same("once", KIT.hall("monk 1 9;monk 1 9;law 0 1 0 1;law 1 1 0 2;law 0 2 3 1;law 1 2 3 9;").rivals(), 1);
        KIT.same("of another YEAR", KIT.hall("monk 1 9;monk 1 9;law 0 1 0 1;law 1 2 0 2;").rivals(), 0);
        KIT.same("ABOUT another", KIT.hall("monk 1 9;monk 1 9;law 0 1 0 1;law 1 1 1 2;").rivals(), 0);
        KIT.same("of one VALUE", KIT.hall("monk 1 9;monk 1 9;law 0 1 0 1;law 1 1 0 1;").rivals(), 0);
        KIT.same("no law", KIT.hall("monk 1 9;monk 1 9;law 0 1 0 1;debt 1 1 0 2;").rivals(), 0);
        KIT.same("no laws", KIT.hall("monk 1 9;monk 1 9;note 0 1 0 1;note 1 1 0 2;").rivals(), 0);
        KIT.same("GONE", KIT.hall("monk 1 9;monk 1 0;law 0 1 0 1;law 1 1 0 2;").rivals(), 0);
        StringBuilder all = new StringBuilder("monk 1 9;".repeat(6));
        for (int monk = 0; monk < 6; monk++) {
            all.append("law ").append(monk).append(" 3 7 ").append(monk).append(';');
        }
        BeardHall hall = KIT.hall(all.toString());
        KIT.same("all six", hall.rivals(), 15);
        hall.die(0);
        KIT.same("the dead too", hall.rivals(), 15);
        hall.comb(5);
        KIT.same("five", hall.rivals(), 10);
    }

    // 'OWED ABOUT something: VALUES of debts less those of grants, each RECORD once.'
    private static void owedOnce() {
        BeardHall hall = KIT.hall("monk 1 9;monk 1 9;monk 1 9;debt 0 0 0 7;copy 0 1 0;copy 0 2 0;grant 1 0 0 9;copy 3 2 0;debt 0 0 7 1;"
            + "law 0 0 0 100;note 0 0 0 100;debt 0 10 0 50;grant 0 10 0 50;");
        KIT.same("each RECORD once", hall.owed(0), -2);
        KIT.same("ABOUT 7", hall.owed(7), 1);
        KIT.same("ABOUT nothing", hall.owed(3), 0);
        hall.comb(0);
        hall.comb(1);
        KIT.same("one copy is enough", hall.owed(0), -2);
        hall.comb(2);
        KIT.same("none", hall.owed(0), -9);
    }

    private static void owedMost() {
        KIT.same("24 debts", KIT.hall("monk 1 9;" + "debt 0 0 7 999;".repeat(24)).owed(7), 24 * 999);
        KIT.same("24 grants", KIT.hall("monk 1 9;" + "grant 0 0 7 999;".repeat(24)).owed(7), -24 * 999);
        KIT.same("one each", KIT.hall("monk 1 9;debt 0 0 7 999;grant 0 0 7 999;").owed(7), 0);
    }

    // ---- cover and alone

    // 'ALL is held by the fewest MONKS of whom some one holds each RECORD that is THERE'
    private static void coverFewest() {
        KIT.same("nobody", new BeardHall().cover(), 0);
        KIT.same("nothing", KIT.hall("monk 1 9;monk 1 9;").cover(), 0);
        KIT.same("nothing THERE", KIT.hall("monk 1 9;note 0 10 0 0;").cover(), 0);
        StringBuilder all = new StringBuilder("monk 1 9;".repeat(6));
        for (int monk = 0; monk < 6; monk++) {
            all.append("note ").append(monk).append(" 0 0 0;");
        }
        KIT.same("all six", KIT.hall(all.toString()).cover(), 63);
        String five = "copy 0 5 0;copy 1 5 0;copy 2 5 0;copy 3 5 0;copy 4 5 0;";
        BeardHall hall = KIT.hall(all + five);
        KIT.same("the last one alone", hall.cover(), 32);
        hall.die(5);
        KIT.same("dead or not", hall.cover(), 32);
        hall.moths(5, 0, 0);
        KIT.same("the others", hall.cover(), 31);
        BeardHall greedy = KIT.hall("monk 1 9;monk 1 9;monk 1 9;note 0 0 0 0;note 0 0 0 0;note 0 0 0 0;note 0 0 0 0;note 1 0 0 0;note 2 0 0 0;"
            + "copy 0 1 0;copy 1 1 0;copy 2 2 0;copy 3 2 0;");
        KIT.same("not who holds most", greedy.cover(), 6);
    }

    // 'of as few the least as bits'
    private static void coverLeast() {
        String two = "monk 1 9;monk 1 9;monk 1 9;note 0 0 0 0;";
        KIT.same("the first", KIT.hall(two + "copy 0 1 0;copy 0 2 0;").cover(), 1);
        KIT.same("of 0 and 2 or 1 and 2", KIT.hall(two + "note 2 0 0 0;copy 0 1 0;").cover(), 5);
        KIT.same("of 0 and 1 or 0 and 2", KIT.hall(two + "note 2 0 0 0;copy 1 1 0;").cover(), 3);
    }

    // 'ALONE: how many RECORDS just one MONK holds.'
    private static void aloneOne() {
        KIT.same("nobody", new BeardHall().alone(), 0);
        BeardHall hall = KIT.hall("monk 1 9;monk 1 9;monk 1 9;note 0 0 0 0;note 0 0 0 0;copy 1 1 0;note 1 0 0 0;copy 3 0 0;copy 3 2 0;note 2 10 0 0;");
        KIT.same("one of one, one of two, one of three, one of none", hall.alone(), 1);
        hall.comb(3);
        KIT.same("two of two", hall.alone(), 1);
        hall.comb(1);
        KIT.same("one more", hall.alone(), 2);
        hall.comb(2);
        KIT.same("none holds it", hall.alone(), 1);
        KIT.same("24", KIT.hall("monk 1 9;" + "note 0 0 0 0;".repeat(24)).alone(), 24);
    }

    // ---- barbers

    // 'the set of so many MONKS (0 to 6, no plaits ..)': so many, also where fewer lose as much
    private static void barbersMany() {
        BeardHall hall = KIT.hall("monk 1 9;".repeat(6) + "note 5 1 0 0;");
        int[] due = {0, 32, 33, 35, 39, 47, 63};
        for (int many = 0; many <= 6; many++) {
            KIT.same("barbers(" + many + ")", hall.barbers(many), due[many]);
        }
        BeardHall plaits = KIT.hall("plait 1 9;monk 1 9;plait 1 9;clerk 1 5;bald 1 0;note 0 1 0 0;note 2 1 0 0;note 3 1 0 0;");
        int[] among = {0, 8, 10, 26, 26, 26, 26};
        for (int many = 0; many <= 6; many++) {
            KIT.same("no plaits, barbers(" + many + ")", plaits.barbers(many), among[many]);
        }
        plaits.die(3);
        KIT.same("the dead too", plaits.barbers(1), 8);
    }

    // 'of all such that there are, if they are fewer'
    private static void barbersFewer() {
        for (int many = 0; many <= 6; many++) {
            KIT.same("nobody", new BeardHall().barbers(many), 0);
            KIT.same("plaits alone", KIT.hall("plait 1 9;plait 1 9;note 0 1 0 0;").barbers(many), 0);
            KIT.same("one", KIT.hall("plait 1 9;bald 1 9;").barbers(many), many == 0 ? 0 : 2);
        }
    }

    // 'shaved to 0 (what is there at 0 stays)'
    private static void barbersAtZero() {
        BeardHall hall = KIT.hall("monk 1 9;monk 1 9;note 0 0 0 0;note 0 0 0 0;note 1 1 0 0 knot;");
        KIT.same("at 0 it stays", hall.barbers(1), 2);
        hall.years(1);
        KIT.same("a year later it goes", hall.barbers(1), 1);
    }

    // 'most RECORDS are THERE no more; of like ones the least as bits'
    private static void barbersLeast() {
        BeardHall hall = KIT.hall("monk 1 9;monk 1 9;monk 1 9;note 0 1 0 0;copy 0 1 1;note 2 1 0 0;");
        KIT.same("a RECORD that two hold is lost by both", hall.barbers(1), 4);
        KIT.same("each two lose one: of like ones the least", hall.barbers(2), 3);
        BeardHall like = KIT.hall("monk 1 9;monk 1 9;monk 1 9;note 1 1 0 0;note 2 1 0 0;");
        KIT.same("1 or 2", like.barbers(1), 2);
    }

    // ---- shortest

    // 'HOW SHORT one may be shaved (0 to his LENGTH) so that each RECORD that is THERE still is.'
    private static void shortest() {
        for (int breadth = 0; breadth <= 9; breadth++) {
            BeardHall hall = KIT.hall("monk 1 9;note 0 " + breadth + " 0 0;note 0 10 0 0;");
            KIT.same("his one", hall.shortest(0), breadth);
        }
        BeardHall hall = KIT.hall("monk 1 9;plait 1 9;bald 1 0;monk 1 0;note 0 8 0 0;note 0 5 0 0;copy 0 1 2;note 2 0 0 0;");
        KIT.same("another holds one of them", hall.shortest(0), 5);
        KIT.same("a plait's is held twice", hall.shortest(1), 0);
        KIT.same("a bald one", hall.shortest(2), 0);
        KIT.same("one without hair", hall.shortest(3), 0);
        hall.die(0);
        hall.years(30);
        KIT.same("of the dead", hall.shortest(0), 5);
        hall.comb(2);
        KIT.same("alone now", hall.shortest(0), 8);
    }

    private static void shortestWhole() {
        BeardHall hall = KIT.hall("knee 60;monk 1 60;note 0 60 0 0;note 0 0 0 0;");
        KIT.same("his LENGTH", hall.shortest(0), 60);
        hall.comb(0);
        KIT.same("0", hall.shortest(0), 0);
        KIT.same("nothing to lose", KIT.hall("monk 1 9;").shortest(0), 0);
    }

    // ---- amnesty

    // 'from so many breadths on to so many more (how many: 0 to 9)'
    private static void amnestyWide() {
        for (int wide = 0; wide <= 9; wide++) {
            for (int apart = 0; apart <= 10; apart++) {
                BeardHall hall = KIT.hall("monk 1 40;debt 0 20 0 5;debt 0 " + (20 + apart) + " 3 7;");
                boolean both = apart <= wide;
                KIT.same("how much, " + apart + " apart, " + wide + " wide", hall.amnesty(0, wide, 0), both ? 12 : 7);
                KIT.same("the first breadth", hall.amnesty(0, wide, 1), 20 + apart - wide);
            }
        }
    }

    // 'from which breadth on (0 to 60) .. the first breadth'
    private static void amnestyFirst() {
        String sixty = "knee 60;monk 1 60;";
        KIT.same("nothing is owed", KIT.hall(sixty).amnesty(0, 9, 0), 0);
        KIT.same("from 0", KIT.hall(sixty).amnesty(0, 9, 1), 0);
        KIT.same("at 60", KIT.hall(sixty + "debt 0 60 0 1;").amnesty(0, 0, 1), 60);
        KIT.same("how much", KIT.hall(sixty + "debt 0 60 0 1;").amnesty(0, 0, 0), 1);
        KIT.same("at 60 by 9 more", KIT.hall(sixty + "debt 0 60 0 1;").amnesty(0, 9, 1), 51);
        KIT.same("at 0", KIT.hall(sixty + "debt 0 0 0 1;debt 0 60 0 1;").amnesty(0, 0, 1), 0);
        KIT.same("debts of VALUE 0", KIT.hall(sixty + "debt 0 30 0 0;").amnesty(0, 0, 1), 0);
        KIT.same("all 24", KIT.hall(sixty + "debt 0 9 0 999;".repeat(24)).amnesty(0, 9, 0), 24 * 999);
    }

    // 'the VALUES of debts whose RECORDS are THERE no more then'
    private static void amnestyNoMore() {
        BeardHall hall = KIT.hall("monk 1 9;monk 1 9;plait 1 9;debt 0 1 0 50;copy 0 1 1;debt 0 2 0 60 knot;grant 0 3 0 70;law 0 4 0 80;note 0 5 0 90;"
            + "debt 0 6 0 5;debt 2 7 0 99;debt 0 10 0 400;");
        KIT.same("one alone", hall.amnesty(0, 9, 0), 5);
        KIT.same("what another holds is no gain", hall.amnesty(1, 9, 0), 0);
        KIT.same("plaits they leave", hall.amnesty(2, 9, 0), 0);
        KIT.same("plaits they leave", hall.amnesty(2, 9, 1), 0);
        hall.comb(1);
        KIT.same("now it is", hall.amnesty(0, 9, 0), 55);
        hall.die(0);
        hall.years(3);
        KIT.same("of the dead", hall.amnesty(0, 0, 1), 1);
        KIT.same("nothing is eaten", hall.count(6), 7);
    }

    // ---- week

    // 'those within DAILY breadths from the chin on day 0 (0 to DAILY less 1), then the next, to day 6'
    private static void weekDays() {
        for (int daily = 1; daily <= 9; daily++) {
            StringBuilder text = new StringBuilder("knee 60;daily " + daily + ";monk 1 60;");
            int[] due = new int[8];
            for (int day = 0; day <= 6; day++) {
                int first = day * daily;
                if (first + daily - 1 <= 60) {
                    text.append("note 0 ").append(first).append(" 0 0;note 0 ").append(first + daily - 1).append(" 0 0;");
                    due[day] += 2;
                }
            }
            if (7 * daily <= 60) {
                text.append("note 0 ").append(7 * daily).append(" 0 0;note 0 60 0 0;");
                due[7] += 2;
            }
            BeardHall hall = KIT.hall(text.toString());
            for (int day = 0; day <= 6; day++) {
                KIT.same("DAILY " + daily + ", day " + day, hall.week(0, day), due[day]);
            }
            KIT.same("DAILY " + daily + ", never", hall.week(0, -1), due[7]);
        }
    }

    // 'how many never'
    private static void weekNever() {
        BeardHall hall = KIT.hall("monk 1 40;monk 1 40;note 0 20 0 0;note 0 21 0 0;note 0 40 0 0;note 0 41 0 0;note 1 30 0 0;");
        KIT.same("DAILY 3 without: 20 is read on day 6", hall.week(0, 6), 1);
        KIT.same("21 and 40 never; 41 is GONE", hall.week(0, -1), 2);
        KIT.same("of another one", hall.week(1, -1), 1);
        KIT.same("none", KIT.hall("monk 1 9;").week(0, -1), 0);
        hall.die(0);
        hall.years(30);
        KIT.same("the dead are read as they died", hall.week(0, 6), 1);
    }

    // ---- oldest and believed

    // 'that of the earliest YEAR, of like ones the least; none'
    private static void oldest() {
        KIT.same("none", new BeardHall().oldest(0, 0), -1);
        BeardHall hall = KIT.hall("monk 1 9;monk 1 9;note 0 1 7 0;note 1 4 7 0;note 0 4 7 0;note 0 10 7 0;law 0 9 7 0;note 0 9 6 0;");
        KIT.same("of like ones the least", hall.oldest(3, 7), 1);
        KIT.same("of another KIND", hall.oldest(0, 7), 4);
        KIT.same("ABOUT another", hall.oldest(3, 6), 5);
        KIT.same("none of the KIND", hall.oldest(1, 7), -1);
        KIT.same("none of the KIND", hall.oldest(2, 7), -1);
        hall.comb(1);
        KIT.same("the next", hall.oldest(3, 7), 2);
        hall.comb(2);
        KIT.same("the next", hall.oldest(3, 7), 0);
        hall.comb(0);
        KIT.same("none", hall.oldest(3, 7), -1);
        hall.braid(1, 3, 7, 0);
        KIT.same("one of this YEAR", hall.oldest(3, 7), 6);
        KIT.same("its own YEAR counts, not its RECORD's",
            KIT.hall("monk 1 9;monk 1 9;note 0 3 0 0;note 0 4 0 0;copy 0 1 5;").oldest(3, 0), 2);
    }

    // 'the VALUE of laws that most MONKS hold (each VALUE once for each MONK who holds it; of like ones the least VALUE); none'
    private static void believed() {
        KIT.same("none", new BeardHall().believed(7), -1);
        KIT.same("no laws", KIT.hall("monk 1 9;debt 0 0 0 1;grant 0 0 0 1;note 0 0 0 1;law 0 10 0 1;law 0 0 1 1;").believed(0), -1);
        KIT.same("VALUE 0", KIT.hall("monk 1 9;law 0 0 0 0;").believed(0), 0);
        KIT.same("VALUE 999", KIT.hall("monk 1 9;law 0 0 7 999;").believed(7), 999);
        KIT.same("of like ones the least", KIT.hall("monk 1 9;monk 1 9;law 0 0 0 5;law 1 0 0 4;").believed(0), 4);
        KIT.same("of like ones the least", KIT.hall("monk 1 9;monk 1 9;law 0 0 0 4;law 1 0 0 5;").believed(0), 4);
        KIT.same("once for each", KIT.hall("monk 1 9;monk 1 9;law 0 0 0 9;law 0 1 0 9;law 0 2 0 9;law 1 0 0 8;").believed(0), 8);
        BeardHall hall = KIT.hall("monk 1 9;monk 1 9;monk 1 9;law 0 0 0 9;law 1 3 0 9;law 2 0 0 1;law 1 0 0 2;");
        KIT.same("of whatever YEAR", hall.believed(0), 9);
        hall.die(1);
        KIT.same("the dead hold it", hall.believed(0), 9);
        hall.comb(0);
        KIT.same("like ones", hall.believed(0), 1);
    }

    // ---- until and doomed

    // 'for how many YEARS more an ENTRY is THERE, if only years go by'
    private static void until() {
        String text = "knee 12;monk 1 12;monk 1 3;clerk 1 5;clerk 1 0;bald 1 0;plait 1 1;"
            + "note 0 0 0 0;note 0 12 0 0;note 1 3 0 0;note 2 5 0 0;note 3 0 0 0;note 4 0 0 0;note 5 1 0 0;note 0 11 0 0 knot;note 1 4 0 0;";
        int[] due = {12, 0, 9, 0, 5, 0, 11, 1, -1};
        for (int entry = 0; entry < due.length; entry++) {
            BeardHall hall = KIT.hall(text);
            KIT.same("until(" + entry + ")", hall.until(entry), due[entry]);
            if (due[entry] > 0) {
                hall.years(due[entry]);
            }
            KIT.same("THERE till then", hall.entry(entry, 8), due[entry] >= 0 ? 1 : 0);
            KIT.same("for 0 more", hall.until(entry), due[entry] >= 0 ? 0 : -1);
            hall.years(1);
            KIT.same("and then no more", hall.entry(entry, 8), 0);
            KIT.same("it isn't THERE", hall.until(entry), -1);
        }
        KIT.same("60", KIT.hall("knee 60;monk 1 0;note 0 0 0 0;").until(0), 60);
    }

    // 'without end, if who holds it is dead'; 'NONE: it isn't THERE; -2: without end'
    private static void untilEnd() {
        BeardHall hall = KIT.hall("knee 9;monk 1 9;note 0 9 0 0;note 0 3 0 0;");
        hall.comb(1);
        hall.die(0);
        KIT.same("without end", hall.until(0), -2);
        KIT.same("it isn't THERE", hall.until(1), -1);
        hall.years(30);
        KIT.same("without end", hall.until(0), -2);
        hall.shave(0, 8);
        KIT.same("but for razors", hall.until(0), -1);
    }

    // 'RECORDS that are THERE and will not be in so many YEARS (0 to 60), if only years go by'
    private static void doomed() {
        String text = "knee 60;monk 1 60;monk 1 0;clerk 1 5;note 0 0 0 0;note 0 60 0 0;note 0 1 0 0;note 1 0 0 0;note 2 3 0 0;note 1 1 0 0;copy 4 0 2;";
        for (int years = 0; years <= 60; years++) {
            int due = (years > 0 ? 1 : 0) + (years > 59 ? 1 : 0) + (years > 58 ? 1 : 0);
            KIT.same("doomed(" + years + ")", KIT.hall(text).doomed(years), due);
        }
        BeardHall hall = KIT.hall(text);
        hall.comb(6);
        KIT.same("2 years are left", hall.doomed(2), 1);
        KIT.same("and no more", hall.doomed(3), 2);
        KIT.same("nothing is lost by it", hall.count(6), 5);
    }

    private static void doomedDead() {
        BeardHall hall = KIT.hall("knee 3;monk 1 3;bald 1 0;note 0 3 0 0;note 1 0 0 0;copy 0 1 0;");
        KIT.same("both", hall.doomed(1), 2);
        hall.die(0);
        KIT.same("the dead keep theirs", hall.doomed(60), 1);
        hall.die(1);
        KIT.same("none", hall.doomed(60), 0);
    }

    // ---- safest, heir, lice

    // 'the living one in whose hair what is BRAIDED in now would be THERE for most YEARS (of like ones the least); none'
    private static void safest() {
        KIT.same("nobody", new BeardHall().safest(), -1);
        KIT.same("a bald one", KIT.hall("bald 1 0;bald 1 0;").safest(), 0);
        KIT.same("a clerk", KIT.hall("bald 1 0;clerk 1 0;bald 1 0;").safest(), 1);
        KIT.same("a monk with little hair", KIT.hall("clerk 1 5;monk 1 0;").safest(), 1);
        KIT.same("a KNEE of 6", KIT.hall("knee 6;clerk 1 5;plait 1 0;").safest(), 1);
        KIT.same("a KNEE of 5", KIT.hall("knee 5;clerk 1 0;plait 1 5;").safest(), 0);
        BeardHall hall = KIT.hall("monk 1 9;monk 1 40;bald 1 0;");
        KIT.same("of like ones the least", hall.safest(), 0);
        hall.die(0);
        KIT.same("a living one", hall.safest(), 1);
        hall.die(1);
        KIT.same("whoever it is", hall.safest(), 2);
        hall.die(2);
        KIT.same("nobody is alive", hall.safest(), -1);
    }

    // 'another living one who holds most of the RECORDS that he holds (of like ones the least); none'
    private static void heir() {
        KIT.same("no other one", KIT.hall("monk 1 9;note 0 0 0 0;").heir(0), -1);
        KIT.same("none of his", KIT.hall("monk 1 9;monk 1 9;").heir(0), 1);
        KIT.same("none of his", KIT.hall("monk 1 9;monk 1 9;").heir(1), 0);
        BeardHall hall = KIT.hall("monk 1 9;monk 1 9;monk 1 9;monk 1 9;note 0 0 0 0;note 0 0 0 0;copy 0 2 0;copy 1 3 0;copy 0 3 0;note 1 0 0 0;note 1 0 0 0;"
            + "note 1 0 0 0;");
        KIT.same("most of his, not most", hall.heir(0), 3);
        KIT.same("like ones", hall.heir(2), 0);
        KIT.same("of one with none in common", hall.heir(1), 0);
        hall.comb(3);
        KIT.same("of like ones the least", hall.heir(0), 2);
        hall.die(2);
        KIT.same("a living one", hall.heir(0), 3);
        hall.die(0);
        KIT.same("of a dead one", hall.heir(0), 3);
        hall.die(1);
        KIT.same("no other one is alive", hall.heir(3), -1);
        KIT.same("of a dead one the last one", hall.heir(1), 3);
        hall.die(3);
        KIT.same("nobody is", hall.heir(1), -1);
    }

    // 'the sum of VALUES by 1 more than their breadths, MOD 97, of one MONK's ENTRIES'
    private static void lice() {
        KIT.same("none", KIT.hall("monk 1 9;").lice(0), 0);
        KIT.same("96", KIT.hall("monk 1 9;note 0 0 0 96;").lice(0), 96);
        KIT.same("97", KIT.hall("monk 1 9;note 0 0 0 97;").lice(0), 0);
        KIT.same("98", KIT.hall("monk 1 9;note 0 0 0 98;").lice(0), 1);
        KIT.same("by 1 more", KIT.hall("monk 1 9;note 0 9 0 9;").lice(0), 90);
        KIT.same("most", KIT.hall("knee 60;monk 1 60;" + "law 0 60 0 999;".repeat(24)).lice(0), 24 * 999 * 61 % 97);
        BeardHall hall = KIT.hall("monk 1 9;plait 1 9;note 0 1 0 1;debt 0 2 0 10 knot;note 1 0 0 5;note 0 10 0 7;copy 2 0 3;");
        KIT.same("of one MONK's that are THERE", hall.lice(0), 2 + 30 + 20);
        KIT.same("of a plait's", hall.lice(1), 5);
        hall.die(1);
        hall.years(1);
        KIT.same("a year later", hall.lice(0), 3 + 40 + 25);
        KIT.same("of the dead", hall.lice(1), 5);
    }

    // what is asked changes nothing
    private static void askingChangesNothing() {
        Twins twins = new Twins(KIT, "knee 20;monk 20 9;plait 70 9;bald 1 0;note 0 1 0 5;debt 1 2 3 4 knot;copy 0 1 3;law 0 4 2 7;debt 0 3 1 8;", hall -> {
            hall.years(1);
            hall.see(0, true);
            hall.image();
            hall.comb(0);
        });
        twins.harmless("all that is asked", 0, hall -> {
            int sum = hall.rivals() + hall.cover() + hall.alone() + hall.safest();
            for (int number = 0; number <= 5; number++) {
                sum += hall.law(number) + hall.owed(number) + hall.believed(number) + hall.oldest(number % 4, number) + hall.barbers(number);
                sum += hall.doomed(10 * number) + hall.game(number % 2) + hall.season(number, 8 * number, number % 3);
                int monk = number % 3;
                sum += hall.shortest(monk) + hall.amnesty(monk, number, 0) + hall.amnesty(monk, number, 1) + hall.week(monk, number);
                sum += hall.heir(monk) + hall.lice(monk) + hall.ate(monk, 0) + hall.ate(monk, 1) + hall.monk(monk, number);
                sum += hall.until(number % 5) + hall.holders(number % 5) + hall.entry(number % 5, number) + (hall.may(monk, number % 5) ? 1 : 0);
            }
            return sum > Integer.MIN_VALUE ? hall.fault() + 1 : 1;
        });
    }
}
