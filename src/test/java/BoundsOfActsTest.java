/**
 * The boundary cases of ACTS and of promises 10 to 18: each refusal with STATUS 1 and nothing else changed, what is just
 * within and just beyond, and what UNDONE brings back. Each method's comment is the sentence that it would find broken.
 */
public final class BoundsOfActsTest {
    private static final TestKit KIT = new TestKit("BoundsOfActsTest");
    private static final int[] FAR = {Integer.MIN_VALUE, -1000000, 1000000, Integer.MAX_VALUE};

    public static void main(String[] args) {
        yearsMany();
        yearsTo999();
        braidNumbers();
        braidFull();
        braidDead();
        braidAsTold();
        copyRefused();
        copyFull();
        copyAsTold();
        copyAgain();
        knotRefused();
        combRefused();
        shaveRefused();
        shaveEdges();
        shaveBreadths();
        mothsRefused();
        mothsEdges();
        mothsLeave();
        dieOnce();
        deadHands();
        undoNone();
        undoEach();
        undoLastFirst();
        fortyKept();
        refusedKeepsNoAct();
        undoLeavesStatus();
        KIT.end();
    }

    private static final Twins SOME = new Twins(KIT, "knee 20;monk 20 9;plait 70 9;bald 1 0;note 0 1 0 5;debt 1 2 3 4 knot;copy 0 1 3;note 0 12 0 0;"
        + "law 0 4 2 7 knot;", hall -> {
            hall.years(1);
            hall.see(0, true);
            hall.image();
            hall.braid(0, 3, 0, 0);
            hall.die(2);
        });

    private static void refused(String what, long due, Twins.Asked call) {
        SOME.refused(what, Twins.ACTS, due, call);
    }

    private static long bit(boolean answer) {
        return answer ? 1 : 0;
    }

    // ---- years

    // 'NONE (STATUS 1): not 1 to 30'
    private static void yearsMany() {
        for (int many : new int[] {0, -1, 31, 32, 60}) {
            refused("years(" + many + ")", -1, hall -> hall.years(many));
        }
        for (int many : FAR) {
            refused("years(" + many + ")", -1, hall -> hall.years(many));
        }
        for (int many = 1; many <= 30; many++) {
            BeardHall hall = new BeardHall();
            KIT.same("years(" + many + ")", hall.years(many), many);
            KIT.same("no STATUS", hall.count(13), 0);
            KIT.same("an ACT", hall.count(9), 1);
        }
    }

    // 'it would be above 999'
    private static void yearsTo999() {
        for (int many = 1; many <= 30; many++) {
            BeardHall hall = late();
            KIT.same("years(" + many + ") in 980", hall.years(many), many <= 19 ? 980 + many : -1);
            KIT.same("the YEAR", hall.count(5), many <= 19 ? 980 + many : 980);
            KIT.same("STATUS 1", hall.count(13), many <= 19 ? 0 : 1);
        }
        BeardHall hall = late();
        KIT.same("to 999", hall.years(19), 999);
        KIT.same("no year more", hall.years(1), -1);
        KIT.same("most", hall.years(30), -1);
        KIT.same("STATUS 1", hall.count(13), 2);
        KIT.same("AGE in 999", hall.monk(0, 1), 999);
        hall.undo();
        KIT.same("a year less", hall.years(18), 998);
        KIT.same("and one", hall.years(1), 999);
    }

    private static BeardHall late() {
        BeardHall hall = KIT.hall("monk 0 1;");
        for (int i = 0; i < 32; i++) {
            hall.years(30);
        }
        KIT.same("980", hall.years(20), 980);
        return hall;
    }

    // ---- braid

    // 'NONE (STATUS 1): .. no such KIND, ABOUT, VALUE'
    private static void braidNumbers() {
        for (int kind : new int[] {-1, 4, 5}) {
            refused("braid of KIND " + kind, -1, hall -> hall.braid(0, kind, 0, 0));
        }
        for (int about : new int[] {-1, 8, 9}) {
            refused("braid ABOUT " + about, -1, hall -> hall.braid(0, 0, about, 0));
        }
        for (int value : new int[] {-1, 1000, 1001}) {
            refused("braid of VALUE " + value, -1, hall -> hall.braid(0, 0, 0, value));
        }
        for (int far : FAR) {
            refused("braid of KIND " + far, -1, hall -> hall.braid(0, far, 0, 0));
            refused("braid ABOUT " + far, -1, hall -> hall.braid(0, 0, far, 0));
            refused("braid of VALUE " + far, -1, hall -> hall.braid(0, 0, 0, far));
        }
        refused("one STATUS for all of it", -1, hall -> hall.braid(2, 9, 9, 9999));
        for (int kind = 0; kind <= 3; kind++) {
            for (int about = 0; about <= 7; about++) {
                int value = (kind + about) % 2 * 999;
                BeardHall hall = KIT.hall("bald 1 0;");
                KIT.same("braid", hall.braid(0, kind, about, value), 0);
                KIT.same("KIND", hall.entry(0, 0), kind);
                KIT.same("ABOUT", hall.entry(0, 3), about);
                KIT.same("VALUE", hall.entry(0, 4), value);
            }
        }
    }

    // 'there are 24'
    private static void braidFull() {
        Twins full = new Twins(KIT, "monk 1 1;" + "law 0 9 0 0;".repeat(22), hall -> {
            hall.braid(0, 0, 0, 0);
            hall.braid(0, 0, 0, 0);
        });
        KIT.same("ENTRIES", full.one().count(1), 24);
        full.refused("a 25th, though 22 are GONE", Twins.ACTS, -1, hall -> hall.braid(0, 0, 0, 0));
        BeardHall hall = full.one();
        hall.comb(23);
        KIT.same("combed out it is one still", hall.braid(0, 0, 0, 0), -1);
        hall.undo();
        hall.undo();
        KIT.same("UNDONE it is none", hall.braid(0, 3, 0, 0), 23);
    }

    // 'he is dead'
    private static void braidDead() {
        refused("braid", -1, hall -> hall.braid(2, 0, 0, 0));
        BeardHall hall = SOME.one();
        hall.undo();
        KIT.same("he lives again", hall.braid(2, 0, 0, 0), 6);
        hall.die(2);
        KIT.same("and is dead", hall.braid(2, 0, 0, 0), -1);
    }

    // 'an ENTRY is BRAIDED in (this YEAR, undyed)': 'the ENTRY's number'
    private static void braidAsTold() {
        BeardHall hall = KIT.hall("clerk 1 0;note 0 9 0 0 dyed 7 knot;");
        hall.years(30);
        KIT.same("its number", hall.braid(0, 1, 7, 999), 1);
        int[] due = {1, 0, 30, 7, 999, 0, 0, 1, 1, 0};
        for (int what = 0; what < due.length; what++) {
            KIT.same("entry(1, " + what + ")", hall.entry(1, what), due[what]);
        }
        BeardHall undone = KIT.hall("monk 1 9;monk 1 9;note 0 0 0 0 dyed 7 knot;");
        undone.copy(0, 1);
        undone.knot(1);
        undone.comb(1);
        undone.undo();
        undone.undo();
        undone.undo();
        KIT.same("where a dyed one was UNDONE", undone.braid(1, 0, 0, 0), 1);
        KIT.same("undyed", undone.entry(1, 5), 0);
        KIT.same("not KNOTTED", undone.entry(1, 6), 0);
        KIT.same("its RECORD", undone.entry(1, 7), 1);
        hall.years(5);
        KIT.same("THERE for 5 years", hall.entry(1, 8), 1);
        hall.years(1);
        KIT.same("and no more", hall.entry(1, 8), 0);
    }

    // ---- copy

    // 'NONE (STATUS 1): .. it isn't THERE, who would hold it is dead or does'
    private static void copyRefused() {
        refused("it isn't THERE", -1, hall -> hall.copy(3, 1));
        refused("he is dead", -1, hall -> hall.copy(0, 2));
        refused("he holds it himself", -1, hall -> hall.copy(0, 0));
        refused("he holds it as a copy", -1, hall -> hall.copy(0, 1));
        refused("he holds what it is copied from", -1, hall -> hall.copy(2, 0));
        refused("the copy itself", -1, hall -> hall.copy(2, 1));
        refused("he holds what has a KNOT", -1, hall -> hall.copy(4, 0));
    }

    // 'there are 24'
    private static void copyFull() {
        Twins full = new Twins(KIT, "monk 1 1;monk 1 1;" + "law 0 0 0 0;".repeat(23), hall -> hall.copy(5, 1));
        KIT.same("ENTRIES", full.one().count(1), 24);
        full.refused("a 25th", Twins.ACTS, -1, hall -> hall.copy(0, 1));
        BeardHall hall = full.one();
        hall.undo();
        KIT.same("UNDONE it is none", hall.copy(0, 1), 23);
        KIT.same("its RECORD", hall.entry(23, 7), 0);
    }

    // 'COPIED into the hair of another one who doesn't hold its RECORD (this YEAR)'
    private static void copyAsTold() {
        BeardHall hall = KIT.hall("monk 1 9;bald 1 0;plait 1 0;grant 0 3 7 999 dyed 7 knot;");
        hall.years(2);
        KIT.same("into a bald one's", hall.copy(0, 1), 1);
        KIT.same("a copy of the copy", hall.copy(1, 2), 2);
        for (int entry = 1; entry <= 2; entry++) {
            int[] due = {2, entry, 2, 7, 999, 7, 0, 0, 1, 0};
            for (int what = 0; what < due.length; what++) {
                KIT.same("entry(" + entry + ", " + what + ")", hall.entry(entry, what), due[what]);
            }
        }
        KIT.same("what it is copied from has its knot", hall.entry(0, 6), 1);
        hall.die(0);
        hall.shave(2, 0);
        hall.comb(2);
        KIT.same("out of the hair of the dead", hall.copy(0, 2), 3);
        KIT.same("its YEAR", hall.entry(3, 2), 2);
    }

    // one who held its RECORD and doesn't any more
    private static void copyAgain() {
        BeardHall hall = KIT.hall("monk 1 9;monk 1 9;note 0 0 0 0;");
        KIT.same("copy", hall.copy(0, 1), 1);
        hall.comb(1);
        KIT.same("copied again", hall.copy(0, 1), 2);
        hall.comb(0);
        KIT.same("back", hall.copy(2, 0), 3);
        KIT.same("its RECORD", hall.entry(3, 7), 0);
        KIT.same("who holds it", hall.holders(0), 3);
        KIT.same("RECORDS", hall.count(7), 1);
    }

    // ---- knot and comb

    // 'False (STATUS 1): it isn't THERE, has one, who holds it is dead.'
    private static void knotRefused() {
        refused("it isn't THERE", 0, hall -> bit(hall.knot(3)));
        refused("it has one", 0, hall -> bit(hall.knot(4)));
        Twins dead = new Twins(KIT, "monk 1 9;note 0 0 0 0;note 0 0 0 0 knot;", hall -> hall.die(0));
        dead.refused("who holds it is dead", Twins.ACTS, 0, hall -> bit(hall.knot(0)));
        dead.refused("one STATUS for both", Twins.ACTS, 0, hall -> bit(hall.knot(1)));
        BeardHall hall = SOME.one();
        KIT.same("a plait's", hall.knot(2), true);
        KIT.same("once", hall.knot(2), false);
        hall.undo();
        KIT.same("UNDONE", hall.entry(2, 6), 0);
        KIT.same("again", hall.knot(2), true);
        KIT.same("KNOTTED", hall.entry(2, 6), 1);
        KIT.same("what it is copied from isn't", hall.entry(0, 6), 0);
    }

    // 'False (STATUS 1): it isn't THERE, has a KNOT, who holds it is dead.'
    private static void combRefused() {
        refused("it isn't THERE", 0, hall -> bit(hall.comb(3)));
        refused("it has a KNOT", 0, hall -> bit(hall.comb(4)));
        refused("a plait's that has a KNOT", 0, hall -> bit(hall.comb(1)));
        Twins dead = new Twins(KIT, "monk 1 9;note 0 0 0 0;note 0 0 0 0 knot;", hall -> hall.die(0));
        dead.refused("who holds it is dead", Twins.ACTS, 0, hall -> bit(hall.comb(0)));
        dead.refused("one STATUS for both", Twins.ACTS, 0, hall -> bit(hall.comb(1)));
        BeardHall hall = SOME.one();
        KIT.same("a plait's", hall.comb(2), true);
        KIT.same("GONE", hall.entry(2, 8), 0);
        KIT.same("no other", hall.entry(0, 8), 1);
        KIT.same("once", hall.comb(2), false);
        KIT.same("nor is a KNOT tied", hall.knot(2), false);
    }

    // ---- shave

    // 'NONE (STATUS 1): LENGTH is below 0, not less than his.'
    private static void shaveRefused() {
        for (int length : new int[] {-1, 10, 11, 60, 61}) {
            refused("shave to " + length, -1, hall -> hall.shave(0, length));
            refused("a plait to " + length, -1, hall -> hall.shave(1, length));
        }
        for (int length : FAR) {
            refused("shave to " + length, -1, hall -> hall.shave(0, length));
        }
        for (int length : new int[] {-1, 0, 1}) {
            refused("a bald one to " + length, -1, hall -> hall.shave(2, length));
        }
    }

    // 'a MONK is SHAVED to a LENGTH less than his'
    private static void shaveEdges() {
        for (int length = 0; length <= 9; length++) {
            BeardHall hall = SOME.one();
            KIT.same("shave to " + length, hall.shave(0, length) >= 0, true);
            KIT.same("LENGTH", hall.monk(0, 2), length);
            KIT.same("not twice", hall.shave(0, length), -1);
            KIT.same("STATUS 1", hall.count(13), 1);
        }
        BeardHall one = KIT.hall("monk 1 1;");
        KIT.same("1 to 0", one.shave(0, 0), 0);
        KIT.same("0 to 0", one.shave(0, 0), -1);
        one.years(1);
        KIT.same("grown, to 0 again", one.shave(0, 0), 0);
    }

    // 'how many ENTRIES are lost': those whose LENGTH is less than their breadths, KNOTTED or not
    private static void shaveBreadths() {
        for (int length = 0; length <= 9; length++) {
            BeardHall hall = KIT.hall("plait 1 10;note 0 0 0 0;note 0 1 0 0 knot;note 0 9 0 0;note 0 10 0 0 knot;note 0 5 0 0;note 0 11 0 0;");
            int[] breadths = {0, 1, 9, 10, 5};
            int lost = 0;
            for (int breadth : breadths) {
                lost += breadth > length ? 1 : 0;
            }
            KIT.same("lost by " + length, hall.shave(0, length), lost);
            for (int entry = 0; entry < 5; entry++) {
                KIT.same("THERE", hall.entry(entry, 8), breadths[entry] > length ? 0 : 1);
            }
            KIT.same("no other one's count", hall.count(6), 5 - lost);
            hall.undo();
            KIT.same("UNDONE", hall.count(6), 5);
            KIT.same("LENGTH", hall.monk(0, 2), 10);
        }
    }

    // ---- moths

    // 'NONE (STATUS 1): not 0 to 60, to below from.'
    private static void mothsRefused() {
        int[][] wrong = {{-1, -1}, {-1, 0}, {-1, 60}, {0, 61}, {60, 61}, {61, 61}, {61, 60}, {1, 0}, {60, 59}, {60, 0}, {0, -1}};
        for (int[] w : wrong) {
            for (int monk = 0; monk <= 2; monk++) {
                int of = monk;
                refused("moths from " + w[0] + " to " + w[1], -1, hall -> hall.moths(of, w[0], w[1]));
            }
        }
        for (int far : FAR) {
            refused("moths from " + far, -1, hall -> hall.moths(0, far, 60));
            refused("moths to " + far, -1, hall -> hall.moths(0, 0, far));
        }
    }

    // 'from so many breadths to so many (0 to 60)'
    private static void mothsEdges() {
        String text = "knee 60;monk 1 60;note 0 0 0 0;note 0 1 0 0;note 0 30 0 0;note 0 59 0 0;note 0 60 0 0;";
        int[] breadths = {0, 1, 30, 59, 60};
        int[][] asked = {{0, 0}, {0, 1}, {1, 1}, {0, 60}, {60, 60}, {59, 60}, {1, 59}, {2, 29}, {30, 30}, {31, 58}, {29, 31}};
        for (int[] a : asked) {
            BeardHall hall = KIT.hall(text);
            int eaten = 0;
            for (int breadth : breadths) {
                eaten += breadth >= a[0] && breadth <= a[1] ? 1 : 0;
            }
            KIT.same("eaten from " + a[0] + " to " + a[1], hall.moths(0, a[0], a[1]), eaten);
            for (int entry = 0; entry < 5; entry++) {
                KIT.same("THERE", hall.entry(entry, 8), breadths[entry] >= a[0] && breadths[entry] <= a[1] ? 0 : 1);
            }
            KIT.same("LENGTH stays", hall.monk(0, 2), 60);
            KIT.same("they find nothing more", hall.moths(0, a[0], a[1]), 0);
            KIT.same("which is an ACT", hall.count(9), 2);
            KIT.same("and not refused", hall.count(13), 0);
        }
    }

    // 'what isn't KNOTTED (plaits they leave)'
    private static void mothsLeave() {
        BeardHall hall = KIT.hall("monk 1 9;plait 1 9;monk 1 9;note 0 3 0 0 knot;note 0 3 0 0;note 1 3 0 0;note 2 3 0 0;note 0 10 0 0;");
        KIT.same("one has a knot, one is GONE", hall.moths(0, 0, 60), 1);
        KIT.same("KNOTTED", hall.entry(0, 8), 1);
        KIT.same("plaits", hall.moths(1, 0, 60), 0);
        KIT.same("a plait's", hall.entry(2, 8), 1);
        KIT.same("another one's", hall.entry(3, 8), 1);
        hall.knot(3);
        KIT.same("knotted now", hall.moths(2, 0, 60), 0);
        hall.undo();
        hall.undo();
        KIT.same("no more", hall.moths(2, 0, 60), 1);
    }

    // ---- die

    // 'False (STATUS 1): he is dead.'
    private static void dieOnce() {
        refused("he is dead", 0, hall -> bit(hall.die(2)));
        BeardHall hall = KIT.hall("monk 1 1;monk 1 1;monk 1 1;monk 1 1;monk 1 1;plait 1 1;");
        for (int monk = 5; monk >= 0; monk--) {
            KIT.same("die", hall.die(monk), true);
            KIT.same("the dead", hall.count(8), 64 - (1 << monk));
            KIT.same("once", hall.die(monk), false);
        }
        hall.undo();
        KIT.same("UNDONE", hall.count(8), 62);
        KIT.same("again", hall.die(0), true);
        KIT.same("STATUS 1", hall.count(13), 6);
    }

    // '(nothing is braided, copied, knotted, combed in his hair then; razors and moths come still)'
    private static void deadHands() {
        Twins dead = new Twins(KIT, "monk 1 9;monk 1 9;note 0 3 0 0;note 0 5 0 0;note 1 0 0 0;", hall -> hall.die(0));
        dead.refused("braided", Twins.ACTS, -1, hall -> hall.braid(0, 0, 0, 0));
        dead.refused("copied", Twins.ACTS, -1, hall -> hall.copy(2, 0));
        dead.refused("knotted", Twins.ACTS, 0, hall -> bit(hall.knot(0)));
        dead.refused("combed", Twins.ACTS, 0, hall -> bit(hall.comb(0)));
        KIT.same("out of his hair", dead.one().copy(0, 1), 3);
        KIT.same("razors", dead.one().shave(0, 4), 1);
        KIT.same("moths", dead.one().moths(0, 0, 9), 2);
        KIT.same("the living", dead.one().braid(1, 0, 0, 0), 3);
    }

    // ---- undo

    // 'NONE: there is none.'
    private static void undoNone() {
        BeardHall hall = KIT.hall("monk 1 9;note 0 3 0 0;");
        KIT.same("none", hall.undo(), -1);
        KIT.same("no STATUS", hall.count(12) + hall.count(13) + hall.count(14), 0);
        hall.years(0);
        KIT.same("what was refused is no ACT", hall.undo(), -1);
        hall.years(1);
        KIT.same("one", hall.undo(), 0);
        KIT.same("none", hall.undo(), -1);
        KIT.same("none", hall.undo(), -1);
        KIT.same("STATUS 1", hall.count(13), 1);
    }

    // 'The last ACT is UNDONE: how many are left.'
    private static void undoEach() {
        Twins.Asked[] acts = {hall -> hall.years(30), hall -> hall.braid(0, 1, 2, 3), hall -> hall.copy(0, 2), hall -> bit(hall.knot(0)),
            hall -> bit(hall.comb(0)), hall -> hall.shave(0, 0), hall -> hall.moths(0, 0, 60), hall -> hall.moths(1, 0, 60), hall -> bit(hall.die(1))};
        Twins twins = new Twins(KIT, "knee 10;monk 20 9;plait 70 9;clerk 1 0;note 0 1 0 5;debt 1 2 3 4 knot;copy 0 1 3;note 0 12 0 0;", hall -> {
            hall.years(1);
            hall.image();
        });
        for (int i = 0; i < acts.length; i++) {
            Twins.Asked act = acts[i];
            twins.harmless("ACT " + i + " UNDONE", 1, hall -> {
                KIT.same("an ACT that is taken", act.of(hall) >= 0, true);
                KIT.same("ACTS", hall.count(9), 2);
                return hall.undo();
            });
        }
    }

    // 'They are UNDONE, the last one first.'
    private static void undoLastFirst() {
        BeardHall hall = KIT.hall("knee 10;monk 20 9;clerk 1 0;note 0 1 0 5;");
        String[] states = new String[8];
        states[0] = Twins.state(hall);
        hall.copy(0, 1);
        states[1] = Twins.state(hall);
        hall.knot(1);
        states[2] = Twins.state(hall);
        hall.years(5);
        states[3] = Twins.state(hall);
        hall.die(1);
        states[4] = Twins.state(hall);
        hall.shave(0, 2);
        states[5] = Twins.state(hall);
        hall.years(2);
        for (int left = 5; left >= 0; left--) {
            KIT.same("undo", hall.undo(), left);
            KIT.same("as ahead of ACT " + left, Twins.state(hall).equals(states[left]), true);
        }
    }

    // 'ACTS (at most 40 are kept, the latest ones)'
    private static void fortyKept() {
        for (int acts = 38; acts <= 43; acts++) {
            BeardHall hall = KIT.hall("monk 1 1;");
            for (int i = 1; i <= acts; i++) {
                hall.years(1);
                KIT.same("ACTS that are kept", hall.count(9), Math.min(i, 40));
            }
            int kept = Math.min(acts, 40);
            for (int left = kept - 1; left >= 0; left--) {
                KIT.same("undo", hall.undo(), left);
            }
            KIT.same("no more", hall.undo(), -1);
            KIT.same("the YEAR", hall.count(5), acts - kept);
        }
        BeardHall full = KIT.hall("monk 1 1;");
        full.braid(0, 0, 0, 0);
        for (int i = 1; i <= 40; i++) {
            full.years(1);
        }
        for (int i = 1; i <= 40; i++) {
            full.undo();
        }
        KIT.same("the 41st from the end stays done", full.count(1), 1);
        KIT.same("room for ACTS again", full.years(1), 1);
        KIT.same("one", full.count(9), 1);
    }

    // an ACT that is refused isn't kept, also where 40 are
    private static void refusedKeepsNoAct() {
        BeardHall hall = KIT.hall("monk 1 1;");
        for (int i = 1; i <= 40; i++) {
            hall.years(1);
        }
        hall.years(0);
        hall.shave(0, -1);
        hall.braid(0, 9, 0, 0);
        KIT.same("ACTS", hall.count(9), 40);
        for (int left = 39; left >= 0; left--) {
            hall.undo();
        }
        KIT.same("the YEAR", hall.count(5), 0);
    }

    // STATUS is no part of what is UNDONE, nor is what is SEEN
    private static void undoLeavesStatus() {
        BeardHall hall = KIT.hall("monk 1 9;note 0 0 0 0;");
        hall.years(1);
        hall.years(0);
        hall.see(0, true);
        TestKit.archive(hall, "x");
        hall.undo();
        KIT.same("STATUS 0", hall.count(12), 1);
        KIT.same("STATUS 1", hall.count(13), 1);
        KIT.same("SEEN", hall.count(10), 1);
    }
}
