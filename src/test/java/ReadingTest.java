/** Promises 5 to 9: count, monk, entry, holders, may with the rule's language. */
public final class ReadingTest {
    private static final TestKit KIT = new TestKit("ReadingTest");

    public static void main(String[] args) {
        counts();
        monks();
        shortKnee();
        entries();
        holders();
        mayWithoutRule();
        mayByRule();
        ruleValues();
        ruleNumbers();
        KIT.end();
    }

    private static void counts() {
        BeardHall hall = KIT.hall("monk 20 5;clerk 30 5;law 0 6 0 1;debt 1 1 2 3;copy 1 0 2;note 0 5 0 0;");
        int[] due = {2, 4, 40, 60, 3, 0, 3, 2, 0, 0, 0, 0, 0, 0, 0};
        for (int what = 0; what < due.length; what++) {
            KIT.same("count(" + what + ")", hall.count(what), due[what]);
        }
        KIT.noSuch("count(15)", () -> hall.count(15));
        KIT.noSuch("count(-1)", () -> hall.count(-1));
        hall.die(1);
        hall.years(3);
        KIT.same("the YEAR", hall.count(5), 3);
        KIT.same("the dead", hall.count(8), 2);
        KIT.same("ACTS", hall.count(9), 2);
    }

    private static void monks() {
        BeardHall hall = KIT.hall("grey 50;monk 49 60;clerk 50 60;bald 0 60;plait 99 60;note 0 0 0 0;note 0 40 0 0;note 0 41 0 0;");
        int[][] due = {{0, 49, 40, 40, 0, 2}, {1, 50, 5, 5, 1, 0}, {2, 0, 0, 0, 0, 0}, {3, 99, 40, 40, 1, 0}};
        for (int monk = 0; monk < 4; monk++) {
            for (int what = 0; what < 6; what++) {
                KIT.same("monk(" + monk + ", " + what + ")", hall.monk(monk, what), due[monk][what]);
            }
        }
        KIT.noSuch("monk(0, 6)", () -> hall.monk(0, 6));
        KIT.noSuch("monk(0, -1)", () -> hall.monk(0, -1));
        KIT.noSuch("monk(4, 0)", () -> hall.monk(4, 0));
        KIT.noSuch("monk(-1, 0)", () -> hall.monk(-1, 0));
        hall.die(2);
        hall.years(1);
        KIT.same("AGE a year later", hall.monk(0, 1), 50);
        KIT.same("GREY then", hall.monk(0, 4), 1);
        KIT.same("AGE of the dead", hall.monk(2, 1), 0);
    }

    private static void shortKnee() {
        BeardHall hall = KIT.hall("knee 3;clerk 1 60;monk 1 2;plait 1 60;");
        KIT.same("a clerk's LENGTH below the knee", hall.monk(0, 2), 3);
        KIT.same("what it may have", hall.monk(0, 3), 3);
        KIT.same("a monk's LENGTH", hall.monk(1, 2), 2);
        KIT.same("a plait's LENGTH", hall.monk(2, 2), 3);
    }

    private static void entries() {
        BeardHall hall = KIT.hall("monk 20 9;bald 3 3;grant 0 2 7 999 dyed 7 knot;copy 0 1 0;note 1 1 3 4;");
        int[][] due = {{2, 0, -2, 7, 999, 7, 1, 0, 1, 2}, {2, 1, 0, 7, 999, 7, 0, 0, 1, 0}, {3, 1, -1, 3, 4, 0, 0, 2, 0, 1}};
        for (int entry = 0; entry < 3; entry++) {
            for (int what = 0; what < 10; what++) {
                KIT.same("entry(" + entry + ", " + what + ")", hall.entry(entry, what), due[entry][what]);
            }
        }
        KIT.noSuch("entry(0, 10)", () -> hall.entry(0, 10));
        KIT.noSuch("entry(0, -1)", () -> hall.entry(0, -1));
        KIT.noSuch("entry(3, 0)", () -> hall.entry(3, 0));
        KIT.noSuch("entry(-1, 0)", () -> hall.entry(-1, 0));
        hall.years(4);
        KIT.same("breadths of what is gone", hall.entry(2, 9), 5);
        KIT.same("breadths later", hall.entry(0, 9), 6);
        hall.die(1);
        hall.years(4);
        KIT.same("breadths of what is gone, of the dead", hall.entry(2, 9), 5);
        KIT.same("the copy is gone", hall.entry(1, 8), 0);
    }

    private static void holders() {
        BeardHall hall = KIT.hall("monk 1 9;monk 1 9;monk 1 1;law 0 1 0 1;copy 0 1 1;copy 1 2 2;law 2 0 0 1;");
        KIT.same("holders(0)", hall.holders(0), 3);
        KIT.same("holders of what is gone itself", hall.holders(2), 3);
        KIT.same("holders(3)", hall.holders(3), 4);
        hall.comb(0);
        KIT.same("holders of the record", hall.holders(0), 2);
        hall.die(1);
        KIT.same("the dead hold", hall.holders(2), 2);
        KIT.noSuch("holders(4)", () -> hall.holders(4));
        KIT.noSuch("holders(-1)", () -> hall.holders(-1));
    }

    private static void mayWithoutRule() {
        BeardHall hall = KIT.hall("grey 40;monk 39 9;monk 40 9;plait 20 9;note 0 0 0 0;note 1 0 0 0;note 2 0 0 0;note 0 10 0 0;");
        int[] readers = {7, 2, 4, 0};
        for (int entry = 0; entry < 4; entry++) {
            for (int monk = 0; monk < 3; monk++) {
                KIT.same("may(" + monk + ", " + entry + ")", hall.may(monk, entry), (readers[entry] >> monk & 1) == 1);
            }
        }
        hall.years(1);
        KIT.same("who holds it is grey now", hall.may(1, 0), false);
        hall.undo();
        hall.die(0);
        hall.years(1);
        KIT.same("the dead grow no older", hall.may(1, 0), true);
        KIT.same("the dead may read", hall.may(0, 0), true);
        KIT.noSuch("may(3, 0)", () -> hall.may(3, 0));
        KIT.noSuch("may(0, 4)", () -> hall.may(0, 4));
        KIT.noSuch("may(-1, 0)", () -> hall.may(-1, 0));
        KIT.noSuch("may(0, -1)", () -> hall.may(0, -1));
    }

    private static void mayByRule() {
        BeardHall none = KIT.hall("monk 1 9;plait 1 9;note 0 0 0 0;note 1 0 0 0;reads 0;");
        KIT.same("nobody by 0", none.may(0, 0), false);
        KIT.same("of a plait who holds it all the same", none.may(1, 1), true);
        BeardHall all = KIT.hall("monk 1 9;plait 1 9;note 0 0 0 0;note 1 0 0 0;reads 7;");
        KIT.same("everybody by 7", all.may(1, 0), true);
        KIT.same("of a plait nobody else", all.may(0, 1), false);
        all.comb(0);
        KIT.same("not what is gone", all.may(0, 0), false);
    }

    private static void rule(String rule, int reader, boolean due) {
        // ENTRY 0: a grant about 5, dyed 3, 4 breadths old, held by 0, who is grey; 1 is 30 years old
        BeardHall hall = KIT.hall("grey 70;monk 70 9;monk 30 9;grant 0 4 5 100 dyed 3;reads " + rule + ";");
        KIT.same(rule + " for " + reader, hall.may(reader, 0), due);
    }

    private static void ruleValues() {
        rule("kind=2", 1, true);
        rule("dye=3", 1, true);
        rule("about=5", 1, true);
        rule("old=4", 1, true);
        rule("grey=1", 1, true);
        rule("grey+1=2", 1, true);
        rule("own=0", 1, true);
        rule("own=1", 0, true);
        rule("own", 1, false);
        rule("age=30", 1, true);
        rule("age=70", 0, true);
        BeardHall hall = KIT.hall("grey 70;monk 69 9;monk 30 9;note 0 4 5 100;reads grey=1 and old=5 and age=31;");
        KIT.same("a year ahead", hall.may(1, 0), false);
        KIT.same("grey is 0", KIT.hall("monk 59 9;note 0 0 0 0;reads grey=0 and 1+grey=1;").may(0, 0), true);
        hall.years(1);
        KIT.same("a year later", hall.may(1, 0), true);
        hall.die(0);
        hall.die(1);
        hall.years(5);
        KIT.same("both dead", hall.may(1, 0), true);
    }

    private static void ruleNumbers() {
        rule("8-3-2=3", 0, true);
        rule("8/2/2=2", 0, true);
        rule("7/2*2=6", 0, true);
        rule("2+3*4=14", 0, true);
        rule("(2+3)*4=20", 0, true);
        rule("(0-7)/2=0-3", 0, true);
        rule("5/0=0", 0, true);
        rule("5/(1-1)+1=1", 0, true);
        rule("9999*9999*9999<0", 0, 9999 * 9999 * 9999 < 0);
        rule("9999*9999*9999*9999<0", 0, 9999 * 9999 * 9999 * 9999 < 0);
        rule("(0-8*8*8*8*8*8*8*8*8*8*2)/(0-1)<0", 0, true);
        rule("1-1", 0, false);
        rule("0-1", 0, true);
        rule("not 5", 0, false);
        rule("not 0", 0, true);
        rule("(not 0)=1", 0, true);
        rule("not not 5", 0, true);
        rule("(not not 5)=1", 0, true);
        rule("not 0=1", 0, true);
        rule("not 1<2", 0, false);
        rule("(1<2)+(2<1)+(3=3)=2", 0, true);
        rule("(5 and 7)=1", 0, true);
        rule("(5 or 0)=1", 0, true);
        rule("(5)=5", 0, true);
        rule("0 and 0 or 1", 0, true);
        rule("1 or 0 and 0", 0, true);
        rule("not 1 or 1", 0, true);
        rule("not 0 and 0", 0, false);
        rule("1<1", 0, false);
        rule("1+(1+1*(1+1*(1+1*(1<1+1))))=5", 0, true);
    }
}
