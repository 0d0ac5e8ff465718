/**
 * The boundary cases of what is SEEN, the game, the season, STATUS and the IMAGE (==== 4) and of promises 35 to 41. Each
 * method's comment is the sentence that it would find broken.
 */
public final class BoundsOfSeenTest {
    private static final TestKit KIT = new TestKit("BoundsOfSeenTest");
    private static final int ALL_WAYS = 231;

    public static void main(String[] args) {
        atMostEight();
        forgetNone();
        ateNothingSeen();
        ateBreadths();
        ateWays();
        ateFirst();
        ateLeaves();
        seenUndone();
        seenAgain();
        gameNone();
        gameOne();
        gameGains();
        gameRests();
        gameFirst();
        seasonNumbers();
        seasonWithoutMonks();
        seasonWraps();
        seasonDraws();
        seasonMoths();
        seasonRazor();
        seasonYears();
        seasonChangesNothing();
        statusTexts();
        statusActs();
        imageNone();
        imageKeeps();
        imageInPlace();
        imageAgain();
        imageOfActs();
        imageGone();
        KIT.end();
    }

    // ---- see and forget

    // 'SEEN (at most 8)'; 'NONE (STATUS 2): there are 8.'
    private static void atMostEight() {
        BeardHall hall = KIT.hall("monk 1 9;note 0 0 0 0;");
        for (int many = 1; many <= 8; many++) {
            KIT.same("how much is", hall.see(0, many % 2 == 0), many);
            KIT.same("SEEN", hall.count(10), many);
            KIT.same("STATUS 2", hall.count(14), 0);
        }
        Twins full = new Twins(KIT, "monk 1 9;note 0 0 0 0;note 0 10 0 0;", made -> {
            for (int i = 0; i < 8; i++) {
                made.see(i % 2, i % 2 == 0);
            }
            made.image();
        });
        full.refused("a ninth", Twins.SEEN, -1, made -> made.see(0, true));
        full.refused("a ninth that would be false", Twins.SEEN, -1, made -> made.see(0, false));
        BeardHall other = full.one();
        other.see(0, false);
        KIT.same("what was refused isn't SEEN", other.ate(0, 1), 101);
        KIT.same("room again", other.forget(), 7);
        KIT.same("for one", other.see(1, false), 8);
        KIT.same("and no more", other.see(1, false), -1);
        KIT.same("STATUS 2", other.count(14), 2);
    }

    // 'What was SEEN last is forgotten: how much is left. NONE: there is none.'
    private static void forgetNone() {
        BeardHall hall = KIT.hall("monk 1 9;note 0 0 0 0;");
        KIT.same("none", hall.forget(), -1);
        hall.see(0, true);
        hall.see(0, false);
        KIT.same("both can't be", hall.ate(0, 0), 0);
        KIT.same("the last is forgotten", hall.forget(), 1);
        KIT.same("the first stays", hall.ate(0, 1), 101);
        KIT.same("and is forgotten", hall.forget(), 0);
        KIT.same("all", hall.ate(0, 0), ALL_WAYS);
        KIT.same("none", hall.forget(), -1);
        KIT.same("none", hall.forget(), -1);
        KIT.same("no STATUS", hall.count(12) + hall.count(13) + hall.count(14), 0);
    }

    // ---- ate

    // 'all SEEN would be so': nothing is
    private static void ateNothingSeen() {
        BeardHall hall = KIT.hall("monk 1 9;plait 1 9;bald 1 0;note 0 3 0 0;");
        for (int monk = 0; monk < 3; monk++) {
            KIT.same("each of them", hall.ate(monk, 0), ALL_WAYS);
            KIT.same("the first", hall.ate(monk, 1), 0);
        }
    }

    // 'from breadth to breadth (0 to 20, to no less than from)'
    private static void ateBreadths() {
        for (int breadth = 0; breadth <= 22; breadth++) {
            BeardHall hall = KIT.hall("monk 1 40;note 0 " + breadth + " 0 0;");
            hall.see(0, false);
            int ways = breadth > 20 ? 0 : (breadth + 1) * (21 - breadth);
            KIT.same("eaten at " + breadth, hall.ate(0, 0), ways);
            KIT.same("the first", hall.ate(0, 1), breadth > 20 ? -1 : breadth);
            hall.forget();
            hall.see(0, true);
            KIT.same("not eaten at " + breadth, hall.ate(0, 0), ALL_WAYS - ways);
            KIT.same("the first", hall.ate(0, 1), breadth == 0 ? 101 : 0);
        }
    }

    // 'how many such'
    private static void ateWays() {
        BeardHall hall = KIT.hall("monk 1 40;note 0 0 0 0;note 0 10 0 0;note 0 20 0 0;");
        // by which are THERE, as bits: 5 (all but 10) is from 1 .. 10 to 10 .. 19, 7 are all that touch none
        int[] due = {1, 10, 0, 10, 10, 100, 10, 90};
        int sum = 0;
        for (int there = 0; there < 8; there++) {
            for (int entry = 0; entry < 3; entry++) {
                hall.see(entry, (there >> entry & 1) == 1);
            }
            KIT.same("THERE " + there, hall.ate(0, 0), due[there]);
            sum += due[there];
            hall.forget();
            hall.forget();
            hall.forget();
        }
        KIT.same("each once", sum, ALL_WAYS);
    }

    // 'the first (100 by from and to; by from first)'
    private static void ateFirst() {
        BeardHall hall = KIT.hall("monk 1 40;note 0 4 0 0;note 0 12 0 0;note 0 20 0 0;note 0 19 0 0;");
        hall.see(1, false);
        KIT.same("from 0", hall.ate(0, 1), 12);
        hall.see(0, true);
        KIT.same("from 5", hall.ate(0, 1), 512);
        hall.see(3, false);
        KIT.same("from 5 to 19", hall.ate(0, 1), 519);
        hall.see(2, true);
        KIT.same("not to 20", hall.ate(0, 0), 8);
        hall.see(2, false);
        KIT.same("none", hall.ate(0, 1), -1);
        KIT.same("none", hall.ate(0, 0), 0);
        BeardHall last = KIT.hall("monk 1 40;note 0 19 0 0;note 0 20 0 0;");
        last.see(0, true);
        last.see(1, false);
        KIT.same("the last of them", last.ate(0, 1), 2020);
        KIT.same("just one", last.ate(0, 0), 1);
    }

    // 'by moths once more in the hair of a MONK': what is KNOTTED, plaits and other ones' hair they leave
    private static void ateLeaves() {
        BeardHall hall = KIT.hall("monk 1 9;plait 1 9;monk 1 9;note 0 3 0 0 knot;note 1 3 0 0;note 2 3 0 0;note 0 10 0 0;");
        for (int entry = 0; entry <= 2; entry++) {
            hall.see(entry, false);
            for (int monk = 0; monk < 3; monk++) {
                KIT.same("ENTRY " + entry + " by moths of " + monk, hall.ate(monk, 0), entry == 2 && monk == 2 ? 4 * 18 : 0);
            }
            hall.forget();
        }
        hall.see(3, false);
        KIT.same("GONE already", hall.ate(1, 0), ALL_WAYS);
        hall.see(3, true);
        KIT.same("it comes not back", hall.ate(0, 1), -1);
        hall.forget();
        hall.see(2, false);
        hall.die(2);
        hall.years(9);
        KIT.same("of the dead", hall.ate(2, 0), 4 * 18);
        KIT.same("nothing is eaten", hall.entry(2, 8), 1);
    }

    // '(one that is no ENTRY any more, by what was UNDONE, isn't)'
    private static void seenUndone() {
        BeardHall hall = KIT.hall("monk 1 9;" + "note 0 3 0 0;".repeat(23));
        hall.braid(0, 0, 0, 0);
        hall.see(23, true);
        KIT.same("it is THERE", hall.ate(0, 0), ALL_WAYS - 21);
        hall.undo();
        KIT.same("it is no ENTRY any more", hall.ate(0, 0), 0);
        KIT.same("SEEN still", hall.count(10), 1);
        hall.forget();
        hall.braid(0, 0, 0, 0);
        hall.see(23, false);
        KIT.same("it might be eaten", hall.ate(0, 0), 21);
        hall.undo();
        KIT.same("it isn't", hall.ate(0, 0), ALL_WAYS);
    }

    // what is SEEN is asked of the hair as it is, whenever it was SEEN
    private static void seenAgain() {
        BeardHall hall = KIT.hall("monk 1 9;note 0 3 0 0;");
        hall.see(0, true);
        hall.comb(0);
        KIT.same("combed out", hall.ate(0, 0), 0);
        hall.undo();
        KIT.same("UNDONE", hall.ate(0, 0), ALL_WAYS - 4 * 18);
        hall.years(2);
        KIT.same("at 5 now", hall.ate(0, 0), ALL_WAYS - 6 * 16);
    }

    // ---- game

    // 'NONE: none rests'
    private static void gameNone() {
        KIT.same("nobody", new BeardHall().game(0), 0);
        KIT.same("nobody", new BeardHall().game(1), -1);
        BeardHall plaits = KIT.hall("plait 1 9;plait 1 9;law 0 1 0 5;");
        KIT.same("plaits", plaits.game(0), 0);
        KIT.same("plaits", plaits.game(1), -1);
        // laws that 0 and 1, 2 and 3 hold together, debts that 0 and 2, 1 and 3 do: one of both always goes on
        BeardHall chase = KIT.hall("monk 1 9;".repeat(4) + "law 0 1 0 10;copy 0 1 1;law 2 1 0 10;copy 2 3 1;debt 0 1 0 7;copy 4 2 1;debt 1 1 0 7;copy 6 3 1;");
        KIT.same("none rests", chase.game(0), 0);
        KIT.same("none rests", chase.game(1), -1);
        BeardHall six = KIT.hall("monk 1 9;".repeat(6) + "law 0 1 0 9;copy 0 1 1;law 2 1 0 9;copy 2 3 1;law 4 1 0 9;copy 4 5 1;"
            + "debt 0 1 0 9;copy 6 2 1;debt 1 1 0 9;copy 8 4 1;debt 3 1 0 9;copy 10 5 1;");
        KIT.same("none of six rests", six.game(0), 0);
        KIT.same("none of six rests", six.game(1), -1);
    }

    // 'two powers send each a barber to a MONK who is no plait: .. (one, if it is the same)'
    private static void gameOne() {
        BeardHall one = KIT.hall("plait 1 9;monk 1 9;law 0 1 0 5;law 1 1 0 5;debt 1 1 0 5;");
        KIT.same("one alone", one.game(0), 1);
        KIT.same("both to him", one.game(1), 11);
        BeardHall six = KIT.hall("monk 1 9;".repeat(6));
        KIT.same("nothing to gain", six.game(0), 36);
        KIT.same("the first", six.game(1), 0);
        BeardHall last = KIT.hall("monk 1 9;".repeat(6) + "law 5 1 0 1;debt 5 1 0 1;");
        KIT.same("all that send one to 5", last.game(0), 11);
        KIT.same("the first", last.game(1), 5);
        BeardHall both = KIT.hall("monk 1 9;".repeat(5) + "plait 1 9;law 4 1 0 1;law 3 1 0 1;debt 4 1 0 1;debt 3 1 0 1;");
        KIT.same("3 and 4, each way", both.game(0), 2);
        KIT.same("the first", both.game(1), 34);
    }

    // 'of RECORDS that are THERE no more then, the first gains VALUES of laws, the second those of debts'
    private static void gameGains() {
        BeardHall grants = KIT.hall("monk 1 9;monk 1 9;grant 0 1 0 9;note 1 1 0 9;");
        KIT.same("grants and notes are nothing", grants.game(0), 4);
        BeardHall laws = KIT.hall("monk 1 9;monk 1 9;law 1 1 0 9;");
        KIT.same("a law of 1: all with 1 but for the first", laws.game(0), 3);
        KIT.same("the first", laws.game(1), 1);
        BeardHall debts = KIT.hall("monk 1 9;monk 1 9;debt 0 1 0 9;");
        KIT.same("a debt of 0", debts.game(0), 3);
        KIT.same("the first", debts.game(1), 0);
        BeardHall chin = KIT.hall("monk 1 9;monk 1 9;law 1 0 0 9;debt 0 0 0 9;");
        KIT.same("what is there at 0 stays", chin.game(0), 4);
        chin.years(1);
        KIT.same("a year later", chin.game(0), 2);
        KIT.same("the first", chin.game(1), 1);
        BeardHall knots = KIT.hall("monk 1 9;monk 1 9;law 1 1 0 9 knot;");
        KIT.same("knots are shaved", knots.game(0), 3);
    }

    // 'A couple RESTS, if neither gains more by another MONK'
    private static void gameRests() {
        BeardHall apart = KIT.hall("monk 1 9;monk 1 9;law 0 1 0 9;debt 1 1 0 9;");
        KIT.same("together they lose both, apart too", apart.game(0), 2);
        BeardHall like = KIT.hall("monk 1 9;monk 1 9;law 0 1 0 9;law 1 1 0 9;debt 0 1 0 3;debt 1 1 0 3;");
        KIT.same("two apart", like.game(0), 2);
        KIT.same("the first", like.game(1), 1);
        BeardHall dead = KIT.hall("monk 1 9;monk 1 9;law 0 1 0 9;debt 1 1 0 9;");
        dead.die(0);
        KIT.same("razors come to the dead", dead.game(0), 2);
        KIT.same("the first", dead.game(1), 1);
        BeardHall plait = KIT.hall("plait 1 9;monk 1 9;monk 1 9;law 0 1 0 999;debt 0 1 0 999;law 2 1 0 1;");
        KIT.same("no barber to a plait", plait.game(0), 3);
        KIT.same("the first", plait.game(1), 12);
    }

    // 'the first (10 by both)': 10 times the first's MONK and the second's
    private static void gameFirst() {
        BeardHall hall = KIT.hall("monk 1 9;monk 1 9;monk 1 9;law 2 1 0 9;debt 1 1 0 9;debt 2 1 0 5;");
        KIT.same("the first to 2, the second to 1; or to 1 and to 2", hall.game(0), 2);
        KIT.same("1 and 2 is ahead", hall.game(1), 12);
    }

    // ---- season

    // 'n YEARS (0 to 40)'
    private static void seasonNumbers() {
        BeardHall hall = KIT.hall("bald 1 0;debt 0 0 0 5;grant 0 0 1 2;law 0 0 0 9;");
        KIT.same("0 YEARS: RECORDS", hall.season(9, 0, 0), 3);
        KIT.same("0 YEARS: OWED", hall.season(9, 0, 1), 3);
        KIT.same("0 YEARS: lost", hall.season(9, 0, 2), 0);
        KIT.same("1 YEAR: RECORDS", hall.season(9, 1, 0), 0);
        KIT.same("1 YEAR: OWED", hall.season(9, 1, 1), 0);
        KIT.same("1 YEAR: lost", hall.season(9, 1, 2), 1);
        KIT.same("40 YEARS: lost", hall.season(9, 40, 2), 1);
        BeardHall dead = KIT.hall("plait 1 40;debt 0 0 7 5;grant 0 0 0 20;");
        dead.die(0);
        KIT.same("40 YEARS of the dead at 0: RECORDS", dead.season(9, 40, 0), 2);
        KIT.same("40 YEARS of the dead at 0: OWED ABOUT all", dead.season(9, 40, 1), -15);
        KIT.same("40 YEARS of the dead at 0: lost", dead.season(9, 40, 2), 0);
    }

    // '(Without MONKS nothing is drawn.)'
    private static void seasonWithoutMonks() {
        for (int what = 0; what <= 2; what++) {
            for (int n = 0; n <= 40; n += 20) {
                KIT.same("without MONKS", new BeardHall().season(Integer.MIN_VALUE, n, what), 0);
            }
        }
    }

    private static long now;

    /** With the whole of longs, so that no int wraps by itself here. */
    private static int draw(int many) {
        now = now * 1103515245L + 12345L & 0xffffffffL;
        return (int) ((now >> 16 & 32767) % many);
    }

    private static void lived(String text, int seed, int n) {
        BeardHall hall = KIT.hall(text);
        int monks = hall.count(0);
        now = seed & 0xffffffffL;
        int lost = 0;
        for (int year = 0; year < n; year++) {
            int before = hall.count(7);
            int monk = draw(monks);
            int what = draw(3);
            if (what == 0) {
                int from = draw(20);
                hall.moths(monk, from, from + 2);
            } else if (what == 1) {
                hall.shave(monk, draw(20));
            }
            hall.years(1);
            lost += hall.count(7) < before ? 1 : 0;
        }
        int owed = 0;
        for (int about = 0; about <= 7; about++) {
            owed += hall.owed(about);
        }
        BeardHall asked = KIT.hall(text);
        KIT.same("RECORDS by " + seed + " in " + n, asked.season(seed, n, 0), hall.count(7));
        KIT.same("OWED by " + seed + " in " + n, asked.season(seed, n, 1), owed);
        KIT.same("YEARS by " + seed + " in " + n, asked.season(seed, n, 2), lost);
    }

    private static final String LONG_BEARDS = "knee 60;monk 1 60;monk 1 30;plait 1 50;debt 0 0 0 1;debt 0 2 1 2;debt 0 4 2 4;debt 0 6 3 8;debt 0 8 4 16 knot;"
        + "debt 1 0 5 32;debt 1 3 6 64;grant 1 6 7 128;debt 1 9 0 256;debt 2 1 1 512;debt 2 30 2 999;copy 0 1 12;copy 5 0 14;";

    // 'A seed becomes itself times 1103515245 and 12345 (an int that wraps)'
    private static void seasonWraps() {
        int[] seeds = {0, 1, -1, 2, -2, 65535, 65536, 32767 << 16, 1 << 31, Integer.MAX_VALUE, Integer.MIN_VALUE + 1, 1103515245, -12345, 123456789};
        for (int seed : seeds) {
            for (int n = 0; n <= 40; n++) {
                lived(LONG_BEARDS, seed, n);
            }
        }
    }

    // 'a DRAW of n is its bits 16 to 30 MOD n then'
    private static void seasonDraws() {
        // by a seed of 0 the first DRAWS are 0, 21468 and 9988
        now = 0;
        KIT.same("bits of the first", draw(32768), 0);
        KIT.same("bits of the second", draw(32768), 21468);
        KIT.same("bits of the third", draw(32768), 9988);
        // MONK 0 of 2, then 0 of 3 is moths, from 9988 of 20 is 8 to 10
        for (int breadth = 6; breadth <= 12; breadth++) {
            BeardHall hall = KIT.hall("monk 1 40;monk 1 40;debt 0 " + breadth + " 0 5;debt 1 " + breadth + " 0 7;");
            boolean eaten = breadth >= 8 && breadth <= 10;
            KIT.same("OWED, at " + breadth, hall.season(0, 1, 1), eaten ? 7 : 12);
            KIT.same("RECORDS, at " + breadth, hall.season(0, 1, 0), eaten ? 1 : 2);
            KIT.same("YEARS, at " + breadth, hall.season(0, 1, 2), eaten ? 1 : 0);
        }
        for (int monks = 1; monks <= 6; monks++) {
            StringBuilder text = new StringBuilder("monk 1 40;".repeat(monks));
            for (int monk = 0; monk < monks; monk++) {
                text.append("debt ").append(monk).append(" 19 0 ").append(1 << monk).append(';');
                text.append("debt ").append(monk).append(" 9 1 ").append(1 << monk).append(';');
            }
            for (int seed = -9; seed <= 9; seed++) {
                lived(text.toString(), seed * 99991, 1);
                lived(text.toString(), seed * 99991, 7);
            }
        }
    }

    // '0 MOTHS eat from a DRAW of 20 to 2 more'
    private static void seasonMoths() {
        // a seed of 0: moths from 8 to 10 at MONK 0
        KIT.same("what is KNOTTED stays", KIT.hall("monk 1 40;debt 0 9 0 5 knot;").season(0, 1, 1), 5);
        KIT.same("what isn't", KIT.hall("monk 1 40;debt 0 9 0 5;").season(0, 1, 1), 0);
        KIT.same("plaits they leave", KIT.hall("plait 1 40;debt 0 9 0 5;").season(0, 1, 1), 5);
        KIT.same("a copy keeps it", KIT.hall("monk 1 40;plait 1 40;debt 0 9 0 5;copy 0 1 0;").season(0, 1, 1), 5);
        KIT.same("and the YEAR lost none", KIT.hall("monk 1 40;plait 1 40;debt 0 9 0 5;copy 0 1 0;").season(0, 1, 2), 0);
        BeardHall dead = KIT.hall("monk 1 40;debt 0 9 0 5;");
        dead.die(0);
        dead.years(5);
        KIT.same("the dead they eat, as they died", dead.season(0, 1, 1), 0);
    }

    // '1 he is shaved to a DRAW of 20 (if that is less)'
    private static void seasonRazor() {
        int seed = seedOfRazor();
        now = seed & 0xffffffffL;
        draw(1);
        draw(3);
        int length = draw(20);
        for (int breadth = length - 1; breadth <= length + 1; breadth++) {
            KIT.same("shaved at " + breadth, KIT.hall("monk 1 40;debt 0 " + breadth + " 0 5 knot;").season(seed, 1, 1), breadth > length ? 0 : 5);
            KIT.same("plaits too", KIT.hall("plait 1 40;debt 0 " + breadth + " 0 5;").season(seed, 1, 1), breadth > length ? 0 : 5);
        }
        String shorter = "knee 60;monk 1 " + (length - 1) + ";debt 0 " + (length - 1) + " 0 5;";
        KIT.same("not where his is less", KIT.hall(shorter).season(seed, 1, 1), 5);
        String like = "knee 60;monk 1 " + length + ";debt 0 " + length + " 0 5;";
        KIT.same("nor where it is as much", KIT.hall(like).season(seed, 1, 1), 5);
    }

    private static int seedOfRazor() {
        for (int seed = 0; seed < 1000; seed++) {
            now = seed;
            draw(1);
            if (draw(3) == 1 && draw(20) > 5) {
                return seed;
            }
        }
        return -1;
    }

    // 'then a year goes by'; 'in how many YEARS some RECORD was lost'
    private static void seasonYears() {
        BeardHall hall = KIT.hall("knee 5;plait 1 5;note 0 5 0 0;note 0 5 0 0;note 0 3 0 0;note 0 0 0 0;");
        // a seed whose first DRAWS of 3 are all 2: nothing but years
        int seed = seedOfNothing(6);
        int[] there = {4, 2, 2, 1, 1, 1, 0};
        int[] lost = {0, 1, 1, 2, 2, 2, 3};
        for (int n = 0; n <= 6; n++) {
            KIT.same("RECORDS in " + n, hall.season(seed, n, 0), there[n]);
            KIT.same("YEARS in " + n, hall.season(seed, n, 2), lost[n]);
        }
        BeardHall late = KIT.hall("knee 60;monk 1 60;debt 0 0 0 5 knot;");
        late.die(0);
        for (int i = 0; i < 33; i++) {
            late.years(30);
        }
        late.years(9);
        KIT.same("in YEAR 999 too", late.season(seed, 40, 1), 5);
    }

    private static int seedOfNothing(int years) {
        for (int seed = 0; seed < 1000000; seed++) {
            now = seed;
            int quiet = 0;
            while (quiet < years && draw(1) == 0 && draw(3) == 2) {
                quiet++;
            }
            if (quiet == years) {
                return seed;
            }
        }
        return -1;
    }

    private static void seasonChangesNothing() {
        Twins twins = new Twins(KIT, "knee 9;monk 20 9;clerk 1 3;note 0 1 0 5;debt 1 2 3 4;copy 0 1 3;", hall -> {
            hall.years(1);
            hall.see(0, true);
            hall.image();
            hall.die(1);
        });
        for (int what = 0; what <= 2; what++) {
            int told = what;
            twins.harmless("season", twins.one().season(77, 40, told), hall -> hall.season(77, 40, told));
        }
        BeardHall hall = twins.one();
        int first = hall.season(77, 40, 0);
        hall.season(78, 40, 1);
        KIT.same("asked again", hall.season(77, 40, 0), first);
    }

    // ---- STATUS

    // 'STATUS: how many calls were refused: 0 TEXTS with a FAULT'
    private static void statusTexts() {
        BeardHall hall = new BeardHall();
        for (int times = 1; times <= 5; times++) {
            TestKit.archive(hall, "x");
            KIT.same("STATUS 0", hall.count(12), times);
        }
        TestKit.archive(hall, "monk 1 1;");
        KIT.same("a good one is none of them", hall.count(12), 5);
        KIT.illegal("nor one that throws", () -> hall.archive(1));
        KIT.same("STATUS 0", hall.count(12), 5);
        KIT.same("no others", hall.count(13) + hall.count(14), 0);
    }

    // '1 ACTS, 2 what is SEEN'
    private static void statusActs() {
        BeardHall hall = KIT.hall("monk 1 1;note 0 0 0 0;");
        hall.years(0);
        hall.braid(0, 9, 9, 9);
        hall.copy(0, 0);
        hall.shave(0, 1);
        hall.moths(0, 1, 0);
        hall.comb(0);
        hall.knot(0);
        hall.comb(0);
        hall.die(0);
        hall.die(0);
        KIT.same("STATUS 1", hall.count(13), 8);
        KIT.same("ACTS", hall.count(9), 2);
        hall.undo();
        hall.undo();
        hall.undo();
        hall.forget();
        hall.restore();
        KIT.same("what isn't there to be undone, forgotten, restored is no STATUS", hall.count(13), 8);
        KIT.same("no others", hall.count(12) + hall.count(14), 0);
        for (int i = 0; i < 10; i++) {
            hall.see(0, true);
        }
        KIT.same("STATUS 2", hall.count(14), 2);
        KIT.same("STATUS 1", hall.count(13), 8);
    }

    // ---- image and restore

    // 'False: there is none.'
    private static void imageNone() {
        Twins twins = new Twins(KIT, "monk 1 9;note 0 0 0 0;", hall -> {
            hall.years(1);
            hall.see(0, true);
        });
        twins.harmless("none", 0, hall -> hall.restore() ? 1 : 0);
        BeardHall fresh = new BeardHall();
        KIT.same("none", fresh.restore(), false);
        fresh.image();
        fresh.years(5);
        KIT.same("of nobody", fresh.restore(), true);
        KIT.same("the YEAR", fresh.count(5), 0);
    }

    // 'AN IMAGE keeps the YEAR, LENGTHS, who is dead, ENTRIES, ACTS that are kept, what is SEEN, STATUS.'
    private static void imageKeeps() {
        Twins twins = new Twins(KIT, "knee 9;monk 20 5;clerk 1 3;monk 1 0;note 0 1 0 5;debt 1 2 3 4;copy 0 1 3;", hall -> {
            hall.years(1);
            hall.see(0, true);
            hall.years(0);
            hall.image();
        });
        String[] names = {"years", "shave", "die", "braid", "copy", "knot", "comb", "moths", "undo", "see", "forget", "refused", "texts", "seen otherwise",
            "another seen"};
        Twins.Asked[] calls = {hall -> hall.years(9), hall -> hall.shave(0, 0), hall -> hall.die(0) ? 1 : 0, hall -> hall.braid(2, 0, 0, 0),
            hall -> hall.copy(0, 2), hall -> hall.knot(0) ? 1 : 0, hall -> hall.comb(0) ? 1 : 0, hall -> hall.moths(0, 0, 60), hall -> hall.undo(),
            hall -> hall.see(1, false), hall -> hall.forget(), hall -> hall.years(0), hall -> TestKit.archive(hall, "x"),
            hall -> hall.forget() + hall.see(0, false), hall -> hall.forget() + hall.see(1, true)};
        for (int i = 0; i < calls.length; i++) {
            Twins.Asked call = calls[i];
            twins.harmless(names[i] + ", then restored", 1, hall -> {
                call.of(hall);
                return hall.restore() ? 1 : 0;
            });
        }
        twins.harmless("all of it, then restored", 1, hall -> {
            hall.undo();
            hall.braid(0, 1, 1, 1);
            for (Twins.Asked call : calls) {
                call.of(hall);
            }
            return hall.restore() ? 1 : 0;
        });
        BeardHall hall = twins.one();
        KIT.same("bytes of the tape are none of it", TestKit.feed(hall, "x"), 20);
        hall.restore();
        KIT.same("bytes", hall.count(11), 20);
    }

    // 'AN IMAGE is kept, in place of another one.'
    private static void imageInPlace() {
        BeardHall hall = KIT.hall("monk 1 9;");
        hall.image();
        hall.years(1);
        hall.image();
        hall.years(1);
        hall.restore();
        KIT.same("the later one", hall.count(5), 1);
        hall.undo();
        hall.image();
        hall.years(7);
        hall.restore();
        KIT.same("the latest", hall.count(5), 0);
        KIT.same("ACTS", hall.count(9), 0);
    }

    // 'It is as the IMAGE again: true.': as often as it is asked
    private static void imageAgain() {
        BeardHall hall = KIT.hall("monk 1 9;note 0 0 0 0;");
        hall.years(2);
        hall.image();
        String state = Twins.state(hall);
        for (int times = 0; times < 3; times++) {
            hall.undo();
            hall.braid(0, times, times, times);
            hall.knot(0);
            hall.die(0);
            hall.see(0, true);
            KIT.same("restore", hall.restore(), true);
            KIT.same("as the IMAGE", Twins.state(hall).equals(state), true);
        }
        KIT.same("at once again", hall.restore(), true);
        KIT.same("as the IMAGE", Twins.state(hall).equals(state), true);
    }

    // ACTS of the IMAGE are UNDONE behind it, though others stood in their place; 40 of them too
    private static void imageOfActs() {
        BeardHall hall = KIT.hall("monk 1 9;");
        hall.braid(0, 1, 2, 3);
        for (int i = 0; i < 39; i++) {
            hall.years(1);
        }
        hall.image();
        for (int i = 0; i < 40; i++) {
            hall.undo();
        }
        hall.braid(0, 3, 7, 999);
        hall.knot(0);
        for (int i = 0; i < 40; i++) {
            hall.years(2);
        }
        hall.restore();
        KIT.same("ACTS", hall.count(9), 40);
        int[] due = {1, 0, 0, 2, 3, 0, 0, 0, 1, 39};
        for (int what = 0; what < due.length; what++) {
            KIT.same("entry(0, " + what + ")", hall.entry(0, what), due[what]);
        }
        for (int left = 39; left >= 1; left--) {
            KIT.same("undo", hall.undo(), left);
            KIT.same("the YEAR", hall.count(5), left - 1);
        }
        KIT.same("the braid", hall.undo(), 0);
        KIT.same("ENTRIES", hall.count(1), 0);
        KIT.same("no more", hall.undo(), -1);
    }

    // 'the image are gone': by an ARCHIVE, not by a FAULT
    private static void imageGone() {
        BeardHall hall = KIT.hall("monk 1 9;");
        hall.image();
        TestKit.archive(hall, "x");
        KIT.same("a FAULT leaves it", hall.restore(), true);
        KIT.same("STATUS as it was", hall.count(12), 0);
        KIT.same("the place isn't of it", hall.fault(), 0);
        TestKit.archive(hall, "monk 1 9;");
        KIT.same("another ARCHIVE", hall.restore(), false);
    }
}
