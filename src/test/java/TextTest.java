/** Promises 1 to 4: a new object, feed, archive with each FAULT, fault. */
public final class TextTest {
    private static final TestKit KIT = new TestKit("TextTest");

    public static void main(String[] args) {
        newObject();
        feeding();
        archiving();
        wrongNumbers();
        unfit();
        tooMuch();
        tooDeep();
        untold();
        heldAlready();
        toldTwice();
        manyLines();
        KIT.end();
    }

    private static void fault(String text, int due, int place) {
        BeardHall hall = new BeardHall();
        KIT.same("archive of " + text, TestKit.archive(hall, text), due);
        KIT.same("fault of " + text, hall.fault(), place);
        KIT.same("STATUS 0 of " + text, hall.count(12), due == 0 ? 0 : 1);
    }

    /** The FAULT stands at the sign ^, which is no part of the text. */
    private static void faultAt(String marked, int due) {
        int place = marked.indexOf('^');
        fault(marked.substring(0, place) + marked.substring(place + 1), due, place);
    }

    private static void fine(String text) {
        fault(text, 0, BeardHall.NONE);
    }

    private static void newObject() {
        BeardHall hall = new BeardHall();
        int[] due = {0, 0, 40, 60, 3, 0, 0, 0, 0, 0, 0, 0, 0, 0, 0};
        for (int what = 0; what < due.length; what++) {
            KIT.same("count(" + what + ") of a new object", hall.count(what), due[what]);
        }
        KIT.same("fault() of a new object", hall.fault(), -1);
        KIT.noSuch("monk(0, 0) of a new object", () -> hall.monk(0, 0));
        KIT.noSuch("entry(0, 0) of a new object", () -> hall.entry(0, 0));
        KIT.same("NONE", BeardHall.NONE, -1);
    }

    private static void feeding() {
        BeardHall hall = new BeardHall();
        for (int times = 1; times <= 35; times++) {
            KIT.same("feed " + times, hall.feed(0x3b202020, 0x20202020, 0x20202020, 0x20202020, 0x20202020), 20 * times);
        }
        KIT.same("a 36th feed", hall.feed(0, 0, 0, 0, 0), -1);
        KIT.same("bytes after it", hall.count(11), 700);
        KIT.same("the first byte", hall.archive(1), 1);
        KIT.same("bytes after archive", hall.count(11), 0);
        KIT.same("feed once more", hall.feed(-1, -1, -1, -1, -1), 20);
        // each number's highest byte comes first
        BeardHall other = new BeardHall();
        other.feed(0x6b6e6565, 0x2037203b, 0x67726579, 0x2039393b, 0x6461696c);
        other.feed(0x7920393b, 0x20202020, 0x20202020, 0x20202020, 0x20202020);
        KIT.same("knee 7;grey 99;daily 9", other.archive(24), 0);
        KIT.same("KNEE", other.count(2), 7);
        KIT.same("GREY", other.count(3), 99);
        KIT.same("DAILY", other.count(4), 9);
    }

    private static void archiving() {
        BeardHall hall = KIT.hall("knee 9;grey 50;daily 4;monk 50 3;note 0 1 0 0;reads 0;");
        hall.years(2);
        hall.see(0, true);
        hall.image();
        KIT.same("a refused act", hall.years(0), -1);
        KIT.same("a text with a fault", TestKit.archive(hall, "monk 1 1; x"), 1);
        KIT.same("its place", hall.fault(), 10);
        KIT.same("the tape is empty", hall.count(11), 0);
        int[] stay = {1, 1, 9, 50, 4, 2, 1, 1, 0, 1, 1, 0, 1, 1, 0};
        for (int what = 0; what < stay.length; what++) {
            KIT.same("count(" + what + ") behind a fault", hall.count(what), stay[what]);
        }
        KIT.same("the rule stays", hall.may(0, 0), false);
        KIT.same("the image stays", hall.restore(), true);
        TestKit.feed(hall, "monk 1 1;");
        KIT.illegal("archive(21)", () -> hall.archive(21));
        KIT.illegal("archive(-1)", () -> hall.archive(-1));
        KIT.same("the tape stays", hall.count(11), 20);
        KIT.same("the place stays", hall.fault(), 10);
        KIT.same("an archive of 20", hall.archive(20), 0);
        KIT.same("no place", hall.fault(), -1);
        int[] anew = {1, 0, 40, 60, 3, 0, 0, 0, 0, 0, 0, 0};
        for (int what = 0; what < anew.length; what++) {
            KIT.same("count(" + what + ") anew", hall.count(what), anew[what]);
        }
        KIT.same("the image is gone", hall.restore(), false);
        KIT.same("acts are gone", hall.undo(), -1);
        hall.braid(0, 0, 0, 5);
        KIT.same("the rule is gone", hall.may(0, 0), true);
        KIT.same("nothing is an archive", hall.archive(0), 0);
        KIT.same("of nobody", hall.count(0), 0);
        fine("");
        fine(" \n ");
        fine("monk 0 0;\nmonk 99 60;monk 0099 0060;");
        fine("monk0 0;law0 0 0 0dyed7knot;reads(own)or 1<2;");
    }

    private static void wrongNumbers() {
        faultAt("monk ^100 1;", 2);
        faultAt("monk 1 ^61;", 2);
        faultAt("monk ^00001 1;", 2);
        faultAt("monk 1 1;law 0 ^61 0 0;", 2);
        faultAt("monk 1 1;law 0 0 ^8 0;", 2);
        faultAt("monk 1 1;law 0 0 0 ^1000;", 2);
        faultAt("monk 1 1;law 0 0 0 0 dyed ^8;", 2);
        faultAt("monk 1 1;law ^00000 0 0 0;", 2);
        faultAt("monk 1 1;monk 1 1;law 0 0 0 0;copy 0 1 ^61;", 2);
        faultAt("monk 1 1;monk 1 1;law 0 0 0 0;copy 0 ^00001 0;", 2);
        faultAt("monk 1 1;monk 1 1;law 0 0 0 0;copy ^00000 1 0;", 2);
        faultAt("knee ^0;", 2);
        faultAt("knee ^61;", 2);
        faultAt("grey ^0;", 2);
        faultAt("grey ^100;", 2);
        faultAt("daily ^0;", 2);
        faultAt("daily ^10;", 2);
        faultAt("reads ^10000;", 2);
        fine("reads 9999;knee 60;grey 1;daily 1;");
        fine("knee 1;grey 99;daily 9;monk 0 0;note 0 60 7 999 dyed 0;");
    }

    private static void unfit() {
        faultAt("^x", 1);
        faultAt("^;", 1);
        faultAt("^7", 1);
        faultAt("^A", 1);
        faultAt("monk 1 1;^\t", 1);
        faultAt("monk 1 1^", 1);
        faultAt("monk 1 1 ^", 1);
        faultAt("monk 1^;", 1);
        faultAt("monk ^old 1;", 1);
        faultAt("monk 1 1 ^1;", 1);
        faultAt("monk 1 1 ^11111;", 1);
        faultAt("^monks 1 1;", 1);
        faultAt("monk 1 1^" + (char) 200 + ";", 1);
        faultAt("monk 1 1;law 0 0 0 0 ^copy;", 1);
        faultAt("monk 1 1;law 0 0 0 0 dyed^;", 1);
        faultAt("monk 1 1;law 0 0 0 0 knot ^dyed 1;", 1);
        faultAt("monk 1 1;law 0 0 0 0 knot ^knot;", 1);
        faultAt("monk 1 1;law 0 0 0 0 dyed 1 ^dyed 1;", 1);
        faultAt("monk 1 1;monk 2 2;law 0 0 0 0;copy 0 1 0 ^knot;", 1);
        faultAt("monk 1 1;monk 2 2;law 0 0 0 0;copy 0 ^;", 1);
        faultAt("monk 1 1;monk 2 2;law 0 0 0 0;copy ^old 1 0;", 1);
        faultAt("monk 1 1;monk 2 2;law 0 0 0 0;copy 0 ^own 0;", 1);
        faultAt("reads^;", 1);
        faultAt("reads 1 ^2;", 1);
        faultAt("reads 1 ^own;", 1);
        faultAt("reads 1 ^not 2;", 1);
        faultAt("reads 1<2^<3;", 1);
        faultAt("reads 1<2^=3;", 1);
        faultAt("reads (1^;", 1);
        faultAt("reads ^);", 1);
        faultAt("reads 1^);", 1);
        faultAt("reads (1^", 1);
        faultAt("reads ^-1;", 1);
        faultAt("reads 1 or^;", 1);
        faultAt("reads 1 ^12345;", 1);
        faultAt("reads own^!", 1);
    }

    private static void tooMuch() {
        String six = "monk 1 1;clerk 1 1;bald 1 1;plait 1 1;monk 1 1;monk 1 1;";
        fine(six);
        faultAt(six + "^bald 1 1;", 2);
        faultAt(six + "^monk", 2);
        String entries = "monk 1 1;monk 1 1;" + "law 0 0 0 0;".repeat(24);
        fine(entries);
        faultAt(entries + "^note 0 0 0 0;", 2);
        faultAt(entries + "^copy 0 1 0;", 2);
        faultAt(entries + "^copy", 2);
        fine("reads not not not not not not own;");
        faultAt("reads not not not not not not ^not own;", 2);
        fine("reads not not not(not not not not own)and not not not own;");
        faultAt("reads 1 and not not not not not not ^not", 2);
    }

    private static void tooDeep() {
        fine("reads (((((1)))));");
        faultAt("reads ((((((^1))))));", 2);
        faultAt("reads ((((((^12345))))));", 2);
        faultAt("reads ((((((^own))))));", 2);
        faultAt("reads ((((((^foo))))));", 2);
        faultAt("reads ((((((^not 1))))));", 2);
        faultAt("reads ((((((^(1)))))));", 2);
        faultAt("reads ((((((^)))))));", 1);
        faultAt("reads ((((((^+1;", 1);
        faultAt("reads ((((((^", 1);
        faultAt("reads ((((((^;", 1);
        fine("reads (((((1)))))+(((((1)))));");
    }

    private static void untold() {
        faultAt("law ^0 0 0 0;", 3);
        faultAt("monk 1 1;law ^1 0 0 0;", 3);
        faultAt("monk 1 1;law ^9 0 0 0;", 3);
        faultAt("monk 1 1;law ^9999 0 0 0;", 3);
        faultAt("monk 1 1;copy ^0 0 0;", 3);
        faultAt("monk 1 1;law 0 0 0 0;copy ^1 0 0;", 3);
        faultAt("monk 1 1;law 0 0 0 0;copy 0 ^1 0;", 3);
        faultAt("reads ^foo;", 3);
        faultAt("reads ^z;", 3);
        faultAt("reads ^or;", 3);
        faultAt("reads ^monk;", 3);
        faultAt("reads ^knot;", 3);
        faultAt("reads 1+^not 2;", 3);
        faultAt("reads 1<^not 2;", 3);
        faultAt("reads not ^and;", 3);
        faultAt("reads 1 or ^ages;", 3);
        fine("reads kind+dye+about+old+grey+own+age;");
    }

    private static void heldAlready() {
        String two = "monk 1 9;monk 1 9;law 0 0 0 0;";
        faultAt(two + "copy 0 ^0 0;", 4);
        faultAt(two + "copy 0 1 0;copy 0 ^1 0;", 4);
        faultAt(two + "copy 0 1 0;copy 1 ^0 0;", 4);
        faultAt(two + "copy 0 1 0;copy 1 ^1 0;", 4);
        // one whose hair is too short for it holds nothing from the beginning
        fine("monk 1 9;monk 1 2;law 0 0 0 0;copy 0 1 3;copy 0 1 2;");
    }

    private static void toldTwice() {
        faultAt("knee 1;^knee 1;", 5);
        faultAt("grey 1;^grey", 5);
        faultAt("daily 1;^daily 1;", 5);
        faultAt("reads 1;monk 1 1;^reads 1;", 5);
        faultAt("monk 1 1;^knee 1;", 6);
        faultAt("plait 1 1;^knee", 6);
        faultAt("knee 1;monk 1 1;^knee 1;", 6);
        fine("knee 1;monk 1 1;grey 1;daily 1;reads grey;");
    }

    private static void manyLines() {
        StringBuilder rule = new StringBuilder("reads 1");
        while (rule.length() < 698) {
            rule.append("+1");
        }
        rule.append(';');
        BeardHall hall = new BeardHall();
        KIT.same("bytes", TestKit.feed(hall, rule.toString()), 700);
        KIT.same("a long rule", hall.archive(rule.length()), 0);
        BeardHall other = new BeardHall();
        TestKit.feed(other, rule.toString());
        KIT.same("a long rule that ends too soon", other.archive(698), 1);
        KIT.same("its place", other.fault(), 698);
    }
}
