/**
 * The boundary cases of hair and of who may read (==== 2 and the rule's language) and of promises 5 to 9: each method's
 * comment is the sentence that it would find broken.
 */
public final class BoundsOfHairTest {
    private static final TestKit KIT = new TestKit("BoundsOfHairTest");

    public static void main(String[] args) {
        yearsSinceItsYear();
        goneFromTheBeginning();
        goneByYears();
        goneForGood();
        growsUpTo();
        deadHair();
        recordThere();
        counts();
        countsAtTheirMost();
        ofMonks();
        greyFrom();
        breadthsIfGone();
        holdersThere();
        mayWhatIsThere();
        mayOfAPlait();
        mayWithoutARule();
        fromTheLeft();
        wraps();
        cutDown();
        byZero();
        tests();
        whatIsntZeroHolds();
        valuesOfOneWhoWouldRead();
        deepestRule();
        KIT.end();
    }

    private static void there(String what, BeardHall hall, int... due) {
        for (int entry = 0; entry < due.length; entry++) {
            KIT.same(what + ": THERE " + entry, hall.entry(entry, 8), due[entry]);
        }
    }

    // 'An ENTRY is so many breadths from the chin as years have gone by since its YEAR.'
    private static void yearsSinceItsYear() {
        BeardHall hall = KIT.hall("knee 60;monk 1 60;note 0 0 0 0;note 0 60 0 0;");
        KIT.same("of this YEAR", hall.entry(0, 9), 0);
        KIT.same("of 60 years ago", hall.entry(1, 9), 60);
        KIT.same("its YEAR is below 0", hall.entry(1, 2), -60);
        hall.years(7);
        hall.braid(0, 0, 0, 0);
        KIT.same("braided now", hall.entry(2, 9), 0);
        KIT.same("its YEAR", hall.entry(2, 2), 7);
        hall.years(30);
        KIT.same("37 years later", hall.entry(0, 9), 37);
        KIT.same("30 years later", hall.entry(2, 9), 30);
        KIT.same("97 years later, GONE or not", hall.entry(1, 9), 97);
        KIT.same("its YEAR stays", hall.entry(1, 2), -60);
    }

    // 'GONE for good, as soon as its LENGTH is less than that (also from the beginning)'
    private static void goneFromTheBeginning() {
        for (int length = 0; length <= 40; length += 8) {
            BeardHall hall = KIT.hall("monk 1 " + length + ";note 0 " + length + " 0 0;note 0 " + (length + 1) + " 0 0;note 0 0 0 0;note 0 60 0 0;");
            there("LENGTH " + length, hall, 1, 0, 1, 0);
            KIT.same("ENTRIES that are THERE", hall.count(6), 2);
            KIT.same("ENTRIES", hall.count(1), 4);
        }
        there("a clerk told too long", KIT.hall("clerk 1 60;note 0 5 0 0;note 0 6 0 0;"), 1, 0);
        there("a bald one", KIT.hall("bald 1 60;note 0 0 0 0;note 0 1 0 0 knot;"), 1, 0);
        there("a knee", KIT.hall("knee 7;plait 1 60;note 0 7 0 0;note 0 8 0 0;"), 1, 0);
        there("copies", KIT.hall("monk 1 9;monk 1 3;note 0 0 0 0;note 0 0 0 0;copy 0 1 3;copy 1 1 4;"), 1, 1, 1, 0);
        BeardHall hall = KIT.hall("monk 1 3;note 0 4 0 0;");
        hall.years(1);
        there("and it stays so", hall, 0);
        KIT.same("nothing is UNDONE of it", hall.undo(), 0);
        there("ahead of the years", hall, 0);
    }

    // 'as soon as its LENGTH is less than that': by years, where hair may be no longer
    private static void goneByYears() {
        BeardHall hall = KIT.hall("knee 10;monk 1 10;monk 1 4;clerk 1 5;clerk 1 0;bald 1 0;"
            + "note 0 9 0 0;note 0 10 0 0;note 1 4 0 0;note 2 4 0 0 knot;note 2 5 0 0 knot;note 3 0 0 0;note 4 0 0 0;");
        there("at first", hall, 1, 1, 1, 1, 1, 1, 1);
        hall.years(1);
        there("a year later", hall, 1, 0, 1, 1, 0, 1, 0);
        hall.years(1);
        there("two", hall, 0, 0, 1, 0, 0, 1, 0);
        hall.years(3);
        there("five", hall, 0, 0, 1, 0, 0, 1, 0);
        hall.years(1);
        there("six", hall, 0, 0, 1, 0, 0, 0, 0);
        hall.years(1);
        there("seven", hall, 0, 0, 0, 0, 0, 0, 0);
        BeardHall atOnce = KIT.hall("knee 10;monk 1 10;monk 1 4;note 0 0 0 0;note 1 4 0 0;note 1 3 0 0;");
        atOnce.years(7);
        there("seven at once", atOnce, 1, 0, 1);
        atOnce.years(3);
        there("ten", atOnce, 1, 0, 0);
        atOnce.years(1);
        there("eleven", atOnce, 0, 0, 0);
    }

    // 'it is GONE for good .. if it is combed out, if moths ate it, if a razor took it'
    private static void goneForGood() {
        BeardHall hall = KIT.hall("monk 1 20;note 0 0 0 0;note 0 3 0 0;note 0 9 0 0;note 0 2 0 0;");
        hall.comb(0);
        hall.moths(0, 3, 3);
        hall.shave(0, 5);
        there("lost", hall, 0, 0, 0, 1);
        hall.years(30);
        there("hair that grows again brings none back", hall, 0, 0, 0, 1);
        KIT.same("LENGTH", hall.monk(0, 2), 35);
        KIT.same("neither is it lost again", hall.shave(0, 0), 1);
    }

    // 'Each year hair grows by a breadth, up to what it may have'
    private static void growsUpTo() {
        BeardHall hall = KIT.hall("knee 6;monk 1 0;clerk 1 0;bald 1 0;plait 1 5;");
        for (int year = 1; year <= 8; year++) {
            hall.years(1);
            int[] due = {Math.min(6, year), Math.min(5, year), 0, 6};
            for (int monk = 0; monk < 4; monk++) {
                KIT.same("LENGTH in YEAR " + year, hall.monk(monk, 2), due[monk]);
            }
        }
        hall.shave(0, 0);
        hall.years(30);
        KIT.same("30 at once", hall.monk(0, 2), 6);
        BeardHall sixty = KIT.hall("knee 60;monk 1 31;monk 1 30;monk 1 29;");
        sixty.years(30);
        KIT.same("to the knee and no more", sixty.monk(0, 2), 60);
        KIT.same("just to the knee", sixty.monk(1, 2), 60);
        KIT.same("not quite", sixty.monk(2, 2), 59);
    }

    // '(of who is dead not, but it holds what it holds: nothing is lost by years any more, the breadths from the chin stay as
    // when he died)'
    private static void deadHair() {
        BeardHall hall = KIT.hall("knee 9;monk 50 4;monk 50 9;bald 50 0;note 0 4 0 0;note 1 9 0 0;note 2 0 0 0;note 0 2 0 0;note 1 3 0 0;");
        hall.years(2);
        hall.braid(2, 0, 0, 0);
        there("ahead", hall, 1, 0, 0, 1, 1, 1);
        hall.die(0);
        hall.die(2);
        KIT.same("the dead, as bits", hall.count(8), 5);
        hall.years(30);
        there("30 years later", hall, 1, 0, 0, 1, 0, 1);
        int[] breadths = {6, 41, 2, 4, 35, 0};
        for (int entry = 0; entry < 6; entry++) {
            KIT.same("breadths of " + entry, hall.entry(entry, 9), breadths[entry]);
        }
        KIT.same("LENGTH of the dead", hall.monk(0, 2), 6);
        KIT.same("LENGTH of a dead bald one", hall.monk(2, 2), 0);
        KIT.same("LENGTH of the living", hall.monk(1, 2), 9);
        KIT.same("razors come still, at breadths as he died", hall.shave(0, 4), 1);
        there("shaved", hall, 0, 0, 0, 1, 0, 1);
        KIT.same("moths come still", hall.moths(0, 4, 4), 1);
        KIT.same("and to the bald", hall.moths(2, 0, 0), 1);
        hall.years(5);
        KIT.same("shaved hair of the dead grows no more", hall.monk(0, 2), 4);
    }

    // 'A RECORD is THERE, if some ENTRY of it is.'
    private static void recordThere() {
        BeardHall hall = KIT.hall("monk 1 9;monk 1 9;monk 1 1;debt 0 0 0 5;copy 0 1 0;copy 1 2 2;note 2 2 0 0;");
        KIT.same("RECORDS", hall.count(7), 1);
        hall.comb(0);
        KIT.same("by the copy", hall.count(7), 1);
        KIT.same("OWED by the copy", hall.owed(0), 5);
        hall.comb(1);
        KIT.same("no more", hall.count(7), 0);
        hall.undo();
        hall.undo();
        hall.comb(1);
        KIT.same("by itself", hall.count(7), 1);
    }

    // promise 5, at its least and in the middle
    private static void counts() {
        BeardHall hall = KIT.hall("knee 8;grey 9;daily 2;monk 1 3;monk 1 3;monk 1 3;law 0 4 0 1;debt 1 1 2 3;copy 1 0 2;");
        hall.die(2);
        hall.die(0);
        hall.years(2);
        hall.years(0);
        hall.years(0);
        hall.see(0, true);
        TestKit.archive(hall, "x");
        TestKit.feed(hall, "x");
        int[] due = {3, 3, 8, 9, 2, 2, 2, 1, 5, 3, 1, 20, 1, 2, 0};
        for (int what = 0; what < due.length; what++) {
            KIT.same("count(" + what + ")", hall.count(what), due[what]);
        }
        for (int many = 0; many < 8; many++) {
            hall.see(0, true);
        }
        KIT.same("STATUS 2", hall.count(14), 1);
        KIT.same("SEEN", hall.count(10), 8);
    }

    private static void countsAtTheirMost() {
        String text = "knee 60;grey 99;daily 9;" + "monk 1 60;".repeat(6) + "law 0 0 0 0;".repeat(24);
        BeardHall hall = KIT.hall(text);
        for (int monk = 0; monk < 6; monk++) {
            hall.die(monk);
        }
        for (int i = 0; i < 33; i++) {
            hall.years(30);
        }
        hall.years(9);
        for (int i = 0; i < 8; i++) {
            hall.see(23, true);
        }
        for (int i = 0; i < 40; i++) {
            hall.feed(0, 0, 0, 0, 0);
        }
        int[] due = {6, 24, 60, 99, 9, 999, 24, 24, 63, 40, 8, 700, 0, 0, 0};
        for (int what = 0; what < due.length; what++) {
            KIT.same("count(" + what + ") at its most", hall.count(what), due[what]);
        }
    }

    // 'Of a MONK: 0 KIND, 1 AGE now (of the dead as they died), 2 LENGTH, 3 what it may have, 4 whether GREY (1), 5 how many
    // ENTRIES are THERE.'
    private static void ofMonks() {
        BeardHall hall = KIT.hall("knee 7;grey 30;monk 29 2;clerk 30 1;bald 31 0;plait 0 7;note 0 2 0 0;note 0 3 0 0;note 0 0 0 0;note 3 7 0 0;");
        int[][] first = {{0, 29, 2, 7, 0, 2}, {1, 30, 1, 5, 1, 0}, {2, 31, 0, 0, 1, 0}, {3, 0, 7, 7, 0, 1}};
        int[][] later = {{0, 29, 2, 7, 0, 2}, {1, 31, 2, 5, 1, 0}, {2, 32, 0, 0, 1, 0}, {3, 1, 7, 7, 0, 0}};
        monks(hall, first);
        hall.die(0);
        hall.years(1);
        monks(hall, later);
        hall.undo();
        monks(hall, first);
    }

    private static void monks(BeardHall hall, int[][] due) {
        for (int monk = 0; monk < due.length; monk++) {
            for (int what = 0; what < 6; what++) {
                KIT.same("monk(" + monk + ", " + what + ")", hall.monk(monk, what), due[monk][what]);
            }
        }
    }

    // 'GREY ..: from which AGE on one is.'
    private static void greyFrom() {
        for (int grey = 1; grey <= 99; grey += 7) {
            BeardHall hall = KIT.hall("monk " + (grey - 1) + " 1;monk " + grey + " 1;grey " + grey + ";");
            KIT.same("a year too young", hall.monk(0, 4), 0);
            KIT.same("old enough", hall.monk(1, 4), 1);
            hall.years(1);
            KIT.same("a year later", hall.monk(0, 4), 1);
        }
        BeardHall without = KIT.hall("monk 59 1;monk 60 1;monk 99 1;monk 0 1;");
        int[] due = {0, 1, 1, 0};
        for (int monk = 0; monk < 4; monk++) {
            KIT.same("60 without", without.monk(monk, 4), due[monk]);
        }
        without.die(0);
        without.years(30);
        KIT.same("the dead become none", without.monk(0, 4), 0);
    }

    // '9 how many breadths from the chin (also if GONE)'
    private static void breadthsIfGone() {
        BeardHall hall = KIT.hall("monk 1 5;note 0 2 0 0;note 0 60 0 0;");
        hall.comb(0);
        KIT.same("GONE", hall.entry(0, 9), 2);
        KIT.same("GONE from the beginning", hall.entry(1, 9), 60);
        hall.years(30);
        KIT.same("later", hall.entry(0, 9), 32);
        KIT.same("later", hall.entry(1, 9), 90);
        hall.die(0);
        hall.years(3);
        KIT.same("of the dead", hall.entry(0, 9), 32);
    }

    // 'Who holds a RECORD that is an ENTRY's (THERE), as bits.'
    private static void holdersThere() {
        BeardHall hall = KIT.hall("monk 1 9;monk 1 9;monk 1 9;monk 1 9;monk 1 9;monk 1 9;note 0 0 0 0;copy 0 5 0;copy 1 3 0;note 1 10 0 0;");
        for (int entry = 0; entry <= 2; entry++) {
            KIT.same("by any of its ENTRIES", hall.holders(entry), 41);
        }
        KIT.same("by nobody", hall.holders(3), 0);
        hall.comb(0);
        for (int entry = 0; entry <= 2; entry++) {
            KIT.same("one less", hall.holders(entry), 40);
        }
        hall.die(5);
        KIT.same("the dead hold it", hall.holders(0), 40);
        hall.moths(5, 0, 0);
        hall.moths(3, 0, 0);
        KIT.same("nobody", hall.holders(0), 0);
    }

    // 'ONE MAY READ an ENTRY that is THERE (alive or not)'; '(false of one that isn't THERE)'
    private static void mayWhatIsThere() {
        for (String rule : new String[] {"", "reads 1;"}) {
            BeardHall hall = KIT.hall("monk 1 9;monk 1 9;plait 1 9;note 0 0 0 0;note 0 10 0 0;note 2 0 0 0;note 2 10 0 0;" + rule);
            KIT.same("who holds it", hall.may(0, 0), true);
            KIT.same("another", hall.may(1, 0), true);
            KIT.same("what isn't THERE", hall.may(0, 1), false);
            KIT.same("what isn't THERE of a plait", hall.may(2, 3), false);
            hall.die(0);
            hall.die(1);
            hall.die(2);
            KIT.same("the dead of the dead", hall.may(1, 0), true);
            KIT.same("a dead plait her own", hall.may(2, 2), true);
            hall.moths(0, 0, 0);
            KIT.same("what moths ate", hall.may(0, 0), false);
        }
    }

    // 'of a plait just who holds it; else if READS holds'
    private static void mayOfAPlait() {
        for (int number = 0; number <= 1; number++) {
            BeardHall hall = KIT.hall("plait 1 9;monk 1 9;plait 1 9;note 0 0 0 0;copy 0 1 0;reads " + number + ";");
            KIT.same("her own", hall.may(0, 0), true);
            KIT.same("a monk", hall.may(1, 0), false);
            KIT.same("another plait", hall.may(2, 0), false);
            KIT.same("of the copy by READS, who holds it", hall.may(1, 1), number == 1);
            KIT.same("of the copy by READS, a plait", hall.may(0, 1), number == 1);
        }
    }

    // '(without a rule, if he holds it, or who holds it isn't GREY)'
    private static void mayWithoutARule() {
        BeardHall hall = KIT.hall("monk 60 9;monk 59 9;note 0 0 0 0;note 1 0 0 0;");
        KIT.same("GREY, his own", hall.may(0, 0), true);
        KIT.same("GREY, another", hall.may(1, 0), false);
        KIT.same("not GREY, by one who is", hall.may(0, 1), true);
        hall.years(1);
        KIT.same("GREY now", hall.may(0, 1), false);
        KIT.same("his own still", hall.may(1, 1), true);
    }

    private static void rule(String rule, boolean due) {
        // ENTRY 0: a grant about 5, dyed 3, 4 breadths from the chin, held by 0, who is GREY; 1, who is 30, would read it
        BeardHall hall = KIT.hall("grey 70;monk 70 9;monk 30 9;grant 0 4 5 100 dyed 3;reads " + rule + ";");
        KIT.same(rule, hall.may(1, 0), due);
    }

    // 'From the left'
    private static void fromTheLeft() {
        rule("10-4-3=3", true);
        rule("10-4+3=9", true);
        rule("100/10/5=2", true);
        rule("100/10*5=50", true);
        rule("2*9/4=4", true);
        rule("2-3*4=0-10", true);
        rule("20/3-2=4", true);
        rule("1 or 1 and 0", true);
        rule("0 and 1 or 1", true);
        rule("0 and (1 or 1)", false);
        rule("not 0 and 0", false);
        rule("not(0 and 0)", true);
        rule("not 1 or 1", true);
        rule("1+1<1+2", true);
        rule("1<2 and 2<1", false);
    }

    // 'ints that wrap'
    private static void wraps() {
        // 2147483647 is 46340 * 46341 + 41707
        String most = "9268*5*(9268*5+1)+9999*4+1711";
        rule(most + "<0", false);
        rule(most + "+1<0", true);
        rule("0-(" + most + ")-1<0", true);
        rule("0-(" + most + ")-2<0", false);
        rule("0-(" + most + ")-2=" + most, true);
        rule("(" + most + ")*2=0-2", true);
        rule("4096*4096*256=0", true);
        rule("4096*4096*256", false);
        rule("4096*4096*128<0", true);
        rule("4096*4096*128=0-4096*4096*128", true);
        rule("4096*4096*128/(0-1)<0", true);
        rule("4096*4096*128/(0-1)=4096*4096*128", true);
    }

    // '/ cut down to 0'
    private static void cutDown() {
        rule("7/2=3", true);
        rule("1/2=0", true);
        rule("(0-7)/2=0-3", true);
        rule("7/(0-2)=0-3", true);
        rule("(0-7)/(0-2)=3", true);
        rule("(0-1)/2=0", true);
        rule("9999/9999=1", true);
        rule("9998/9999=0", true);
    }

    // 'by 0 gives 0'
    private static void byZero() {
        rule("5/0=0", true);
        rule("0/0=0", true);
        rule("(0-5)/0=0", true);
        rule("5/0+1=1", true);
        rule("5/0/0=0", true);
        rule("7/(own)=0", true);
        rule("4096*4096*128/0=0", true);
    }

    // 'tests, not, and, or are 1 or 0'
    private static void tests() {
        rule("(1<2)=1", true);
        rule("(2<2)=0", true);
        rule("(2<1)=0", true);
        rule("(2=2)=1", true);
        rule("(2=1)=0", true);
        rule("(0-1<0)=1", true);
        rule("(not 0)=1", true);
        rule("(not 7)=0", true);
        rule("(not not 7)=1", true);
        rule("(not not not not not not 7)=1", true);
        rule("(not not not not not 7)=0", true);
        rule("(7 and 9)=1", true);
        rule("(7 and 0)=0", true);
        rule("(0 and 7)=0", true);
        rule("(7 or 9)=1", true);
        rule("(0 or 9)=1", true);
        rule("(9 or 0)=1", true);
        rule("(0 or 0)=0", true);
        rule("(7)=7", true);
        rule("((7))=1", false);
    }

    // '(what isn't 0 holds)'
    private static void whatIsntZeroHolds() {
        rule("0", false);
        rule("1", true);
        rule("2", true);
        rule("0-1", true);
        rule("9999", true);
        rule("4096*4096*128", true);
        rule("0-1 and 0-2", true);
        rule("not(0-1)", false);
    }

    // 'VALUES of one who would read an ENTRY'
    private static void valuesOfOneWhoWouldRead() {
        for (int kind = 0; kind <= 3; kind++) {
            String word = new String[] {"law", "debt", "grant", "note"}[kind];
            BeardHall hall = KIT.hall("monk 1 9;" + word + " 0 0 0 0;reads kind=" + kind + ";");
            KIT.same("kind " + kind, hall.may(0, 0), true);
        }
        for (int number = 0; number <= 7; number++) {
            BeardHall hall = KIT.hall("monk 1 9;note 0 0 " + number + " 0 dyed " + (7 - number) + ";reads about=" + number + " and dye=" + (7 - number) + ";");
            KIT.same("about and dye", hall.may(0, 0), true);
        }
        BeardHall grey = KIT.hall("monk 59 9;monk 60 9;note 0 0 0 0;note 1 0 0 0;reads grey;");
        readers("grey is 0, then 1", grey, 0, 0, 1, 1);
        BeardHall own = KIT.hall("monk 1 9;monk 1 9;note 0 0 0 0;note 1 0 0 0;reads own;");
        readers("own is 1, else 0", own, 1, 0, 0, 1);
        BeardHall undyed = KIT.hall("monk 1 9;note 0 0 7 0;reads dye=0;");
        KIT.same("undyed is 0", undyed.may(0, 0), true);
        BeardHall hall = KIT.hall("grey 40;monk 39 0;monk 97 9;note 0 0 0 0;copy 0 1 9;reads old*1000+grey*100+own*10=age+1070;");
        readers("0 breadths, not GREY", hall, 0, 0, 0, 0);
        hall.years(1);
        readers("1 breadth, GREY, his own, 40", hall, 1, 0, 0, 0);
        hall.die(0);
        hall.years(30);
        readers("the dead stay so", hall, 1, 0, 0, 0);
        hall.undo();
        hall.undo();
        hall.years(1);
        readers("2 breadths, 41", hall, 0, 0, 0, 0);
        BeardHall reader = KIT.hall("grey 40;monk 39 9;monk 40 9;note 0 3 0 0;note 1 4 0 0;reads own=0 and age<40 and grey and old=4;");
        readers("'age' and 'own' are the reader's, 'grey' and 'old' the holder's", reader, 0, 0, 1, 0);
    }

    /** Whether 0 and 1 may read ENTRY 0, then ENTRY 1. */
    private static void readers(String what, BeardHall hall, int... due) {
        for (int i = 0; i < 4; i++) {
            KIT.same(what + ": may(" + i % 2 + ", " + i / 2 + ")", hall.may(i % 2, i / 2), due[i] == 1);
        }
    }

    // an EXPR within 5 others, with all that can wait for its end
    private static void deepestRule() {
        StringBuilder rule = new StringBuilder();
        for (int deep = 0; deep < 6; deep++) {
            rule.append("0 or 1 and 7<2+3*").append(deep < 5 ? "(" : "2");
        }
        rule.append(")))))");
        // the innermost is 7 < 2 + 3 * 2, so 1; all others are 7 < 2 + 3 * 1, so 0
        rule(rule.toString(), false);
        rule("0+(0+(0+(0+(0+(0+1*1)*1)*1)*1)*1)*1", true);
        rule("not(not(not(not(not(not 1)))))", true);
        rule("not(not(not(not(not(not not 1)))))", false);
    }
}
