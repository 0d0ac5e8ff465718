/**
 * The boundary cases of the document's first part ('Terms' up to ==== 2) and of promises 1 to 4, sentence by sentence:
 * each method's comment is the sentence that it would find broken.
 */
public final class BoundsOfTextTest {
    private static final TestKit KIT = new TestKit("BoundsOfTextTest");
    private static final String[] MONKS = {"monk", "clerk", "bald", "plait"};
    private static final String[] ENTRIES = {"law", "debt", "grant", "note"};
    private static final String[] VALUES = {"kind", "dye", "about", "old", "grey", "own", "age"};
    private static final String[] OTHER_WORDS = {"monk", "clerk", "bald", "plait", "law", "debt", "grant", "note", "copy", "knee", "daily",
        "reads", "dyed", "knot", "or", "and", "x", "kin", "kinds", "ag", "ages", "ow", "greys", "dy"};

    public static void main(String[] args) {
        nobody();
        feedFills();
        feedRefused();
        highestFirst();
        archiveNumbers();
        archiveEmptiesTape();
        archiveFirstBytes();
        archiveAnew();
        archiveFaultStays();
        faultPlaces();
        atMostSixMonks();
        ages();
        lengths();
        atMostEntries();
        entryNumbers();
        settings();
        copies();
        longestText();
        tokens();
        blanks();
        endsTooSoon();
        cannotStand();
        longNumbers();
        depths();
        nots();
        noValue();
        notTold();
        holdsAlready();
        seconds();
        firstAlong();
        leastOfOne();
        KIT.end();
    }

    private static void fault(String text, int due, int place) {
        BeardHall hall = new BeardHall();
        KIT.same("archive of " + text, TestKit.archive(hall, text), due);
        KIT.same("fault of " + text, hall.fault(), place);
        KIT.same("STATUS 0 of " + text, hall.count(12), due == 0 ? 0 : 1);
    }

    /** The FAULT stands at the sign ^, which is no part of the text. */
    private static void faultAt(String marked, int due) {
        int place = marked.indexOf('^');
        fault(marked.substring(0, place) + marked.substring(place + 1), due, place);
    }

    private static void fine(String text) {
        fault(text, 0, BeardHall.NONE);
    }

    // ---- promises 1 to 4

    // 'Nobody.'
    private static void nobody() {
        BeardHall hall = new BeardHall();
        int[] due = {0, 0, 40, 60, 3, 0, 0, 0, 0, 0, 0, 0, 0, 0, 0};
        for (int what = 0; what < due.length; what++) {
            KIT.same("count(" + what + ")", hall.count(what), due[what]);
        }
        KIT.noSuch("no MONK", () -> hall.monk(0, 0));
        KIT.noSuch("no ENTRY", () -> hall.entry(0, 0));
        KIT.same("no place of a FAULT", hall.fault(), -1);
        KIT.same("ALL", hall.cover(), 0);
        KIT.same("ALONE", hall.alone(), 0);
        KIT.same("RIVALS", hall.rivals(), 0);
        KIT.same("THE SAFEST", hall.safest(), -1);
        KIT.same("a year goes by", hall.years(1), 1);
        KIT.same("and is UNDONE", hall.undo(), 0);
        KIT.same("no more", hall.undo(), -1);
        KIT.same("nothing is SEEN", hall.forget(), -1);
        KIT.same("no IMAGE", hall.restore(), false);
    }

    // 'Twenty bytes come behind the tape ..: how many it has'
    private static void feedFills() {
        BeardHall hall = new BeardHall();
        KIT.same("none at first", hall.count(11), 0);
        for (int many = 20; many <= 700; many += 20) {
            KIT.same("feed", hall.feed(0, 0, 0, 0, 0), many);
            KIT.same("bytes", hall.count(11), many);
        }
    }

    // 'NONE, and none come, if it would have more than 700.'
    private static void feedRefused() {
        BeardHall hall = new BeardHall();
        StringBuilder text = new StringBuilder("knee 7;");
        while (text.length() < 700) {
            text.append(' ');
        }
        KIT.same("700 bytes", TestKit.feed(hall, text.toString()), 700);
        for (int times = 0; times < 3; times++) {
            KIT.same("more than 700", hall.feed(-1, -1, -1, -1, -1), -1);
            KIT.same("none come", hall.count(11), 700);
        }
        for (int what = 12; what <= 14; what++) {
            KIT.same("no STATUS", hall.count(what), 0);
        }
        KIT.same("what was there is there", hall.archive(700), 0);
        KIT.same("KNEE", hall.count(2), 7);
        KIT.same("there is room again", hall.feed(-1, -1, -1, -1, -1), 20);
    }

    // 'of each number the highest first'
    private static void highestFirst() {
        BeardHall hall = new BeardHall();
        int blank = 0x20202020;
        hall.feed(0x67726579, 0x20313233, 0x20202020, blank, blank);
        hall.archive(16);
        KIT.same("grey 123 is too much at 5", hall.fault(), 5);
        int[] numbers = {blank, blank, blank, blank, blank};
        for (int place = 0; place < 20; place++) {
            int[] fed = numbers.clone();
            fed[place / 4] = fed[place / 4] & ~(255 << 24 - 8 * (place % 4)) | '!' << 24 - 8 * (place % 4);
            BeardHall other = new BeardHall();
            other.feed(fed[0], fed[1], fed[2], fed[3], fed[4]);
            KIT.same("a sign that is none", other.archive(20), 1);
            KIT.same("its place", other.fault(), place);
        }
        BeardHall high = new BeardHall();
        high.feed(0xff202020, blank, blank, blank, blank);
        KIT.same("a byte 255 is no TOKEN", high.archive(20), 1);
    }

    // 'IllegalArgumentException: the tape has not so many, n below 0 (nothing changes).'
    private static void archiveNumbers() {
        Twins twins = new Twins(KIT, "monk 1 9;note 0 1 0 0;", hall -> {
            TestKit.archive(hall, "x");
            hall.years(1);
            hall.see(0, true);
            hall.image();
            hall.comb(0);
            TestKit.feed(hall, "monk 1 1;monk 2 2;           ");
        });
        int[] wrong = {-1, -20, Integer.MIN_VALUE, 41, 60, 700, 701, Integer.MAX_VALUE};
        for (int n : wrong) {
            twins.illegal("archive(" + n + ")", hall -> hall.archive(n));
            BeardHall hall = twins.one();
            KIT.illegal("archive(" + n + ")", () -> hall.archive(n));
            KIT.same("the place stays", hall.fault(), 0);
            KIT.same("the tape's bytes stay", hall.archive(40), 0);
            KIT.same("as they were", hall.count(0), 2);
        }
        BeardHall fresh = new BeardHall();
        KIT.illegal("an empty tape has not 1", () -> fresh.archive(1));
        KIT.same("but 0", fresh.archive(0), 0);
    }

    // 'The tape's first n bytes (it is empty then)'
    private static void archiveEmptiesTape() {
        BeardHall hall = new BeardHall();
        TestKit.feed(hall, "monk 1 1;monk 1 1;  monk 1 1;");
        KIT.same("archive(0)", hall.archive(0), 0);
        KIT.same("nobody", hall.count(0), 0);
        KIT.same("the tape is empty", hall.count(11), 0);
        TestKit.feed(hall, "monk 1 1;monk 1 1;  monk 1 1;");
        KIT.same("archive(9)", hall.archive(9), 0);
        KIT.same("one", hall.count(0), 1);
        KIT.same("the tape is empty", hall.count(11), 0);
        KIT.illegal("there is nothing more", () -> hall.archive(1));
        TestKit.feed(hall, "monk;");
        KIT.same("a FAULT", hall.archive(5), 1);
        KIT.same("the tape is empty", hall.count(11), 0);
        KIT.same("what comes then comes first", TestKit.feed(hall, "bald 1 1;"), 20);
        KIT.same("archive(20)", hall.archive(20), 0);
        KIT.same("KIND", hall.monk(0, 0), 2);
    }

    // 'The tape's first n bytes .. are an ARCHIVE': what stands behind them counts for nothing
    private static void archiveFirstBytes() {
        String text = "knee 12;monk 31 45;law 0 9 1 345 dyed 7 knot;reads own;";
        for (int n = 0; n <= text.length(); n++) {
            BeardHall hall = new BeardHall();
            TestKit.feed(hall, text);
            boolean whole = n == 0 || text.charAt(n - 1) == ';';
            KIT.same("the first " + n + " of " + text, hall.archive(n) == 0, whole);
            KIT.same("place of " + n, hall.fault() == -1, whole);
        }
        BeardHall cut = new BeardHall();
        TestKit.feed(cut, "knee 12;");
        KIT.same("the number is cut too", cut.archive(6), 1);
        KIT.same("at the text's length", cut.fault(), 6);
        TestKit.feed(cut, "monk 1 1;");
        KIT.same("the word is cut too", cut.archive(3), 1);
        KIT.same("mon is no word that can stand there", cut.fault(), 0);
    }

    // 'all anew .. ACTS, what is SEEN, the image are gone, the YEAR is 0.'
    private static void archiveAnew() {
        BeardHall hall = KIT.hall("knee 9;grey 50;daily 4;monk 50 3;plait 1 1;note 0 1 0 0;reads 0;");
        hall.years(2);
        hall.die(1);
        hall.see(0, true);
        hall.image();
        hall.years(0);
        KIT.same("another", TestKit.archive(hall, "monk 7 0;"), 0);
        int[] anew = {1, 0, 40, 60, 3, 0, 0, 0, 0, 0, 0, 0, 0, 1, 0};
        for (int what = 0; what < anew.length; what++) {
            KIT.same("count(" + what + ") anew", hall.count(what), anew[what]);
        }
        KIT.same("ACTS are gone", hall.undo(), -1);
        KIT.same("what is SEEN is gone", hall.forget(), -1);
        KIT.same("the image is gone", hall.restore(), false);
        KIT.same("a braid", hall.braid(0, 3, 0, 0), 0);
        KIT.same("the rule is gone", hall.may(0, 0), true);
        TestKit.archive(hall, "monk 1 9;monk 1 9;law 0 0 0 0 dyed 7 knot;law 0 10 0 0 dyed 7;copy 0 1 0;");
        TestKit.archive(hall, "monk 1 9;monk 1 9;note 0 0 0 0;note 1 0 0 0;note 1 0 0 0;");
        for (int entry = 0; entry < 3; entry++) {
            KIT.same("the DYE is gone", hall.entry(entry, 5), 0);
            KIT.same("the KNOT is gone", hall.entry(entry, 6), 0);
            KIT.same("it is THERE", hall.entry(entry, 8), 1);
            KIT.same("its RECORD is itself", hall.entry(entry, 7), entry);
        }
        KIT.same("he lives", hall.die(0), true);
    }

    // '0, or the FAULT (all stays, but STATUS)'
    private static void archiveFaultStays() {
        Twins twins = new Twins(KIT, "knee 9;grey 50;daily 4;monk 50 3;plait 1 1;note 0 1 0 0;note 1 0 3 4 dyed 2;reads old;", hall -> {
            hall.years(2);
            hall.see(0, false);
            hall.image();
            hall.comb(0);
            hall.die(1);
        });
        String[] texts = {"x", "knee 3;grey 2;daily 1;monk 1 1;note 0 0 0 0;reads 0;x", "monk 1 1;law 0 0 0 9999;", "reads foo;",
            "monk 1 1;monk 1 1;law 0 0 0 1;copy 0 0 0;", "grey 1;grey 1;", "monk 1 1;knee 1;"};
        int[] faults = {1, 1, 2, 3, 4, 5, 6};
        for (int i = 0; i < texts.length; i++) {
            String text = texts[i];
            twins.refused("archive of " + text, Twins.TEXTS, faults[i], hall -> TestKit.archive(hall, text));
        }
    }

    // 'The place of the latest archive()'s FAULT; NONE without.'
    private static void faultPlaces() {
        BeardHall hall = new BeardHall();
        KIT.same("without any", hall.fault(), -1);
        TestKit.archive(hall, "monk 1 1;  x");
        KIT.same("the place", hall.fault(), 11);
        KIT.same("asked twice", hall.fault(), 11);
        TestKit.archive(hall, "!");
        KIT.same("of the latest", hall.fault(), 0);
        TestKit.archive(hall, "monk 1 1;");
        KIT.same("without", hall.fault(), -1);
        KIT.same("STATUS 0", hall.count(12), 2);
    }

    // ---- 'Terms'

    // 'MONKS 0, 1 .. (at most 6)'; FAULT 2: 'the first TOKEN of the 7th MONK'
    private static void atMostSixMonks() {
        StringBuilder text = new StringBuilder();
        for (int many = 1; many <= 6; many++) {
            text.append(MONKS[many % 4]).append(" 1 1;");
            BeardHall hall = KIT.hall(text.toString());
            KIT.same("MONKS", hall.count(0), many);
            KIT.same("the last one's KIND", hall.monk(many - 1, 0), many % 4);
            int next = many;
            KIT.noSuch("no more", () -> hall.monk(next, 0));
        }
        for (String word : MONKS) {
            faultAt(text + "^" + word + " 1 1;", 2);
            faultAt(text + " \n^" + word, 2);
        }
        fine(text + "law 5 0 0 0;");
    }

    // 'AGE (0 to 99 years)'
    private static void ages() {
        for (int age = 0; age <= 101; age++) {
            fault("monk " + age + " 1;", age > 99 ? 2 : 0, age > 99 ? 5 : -1);
        }
        KIT.same("0", KIT.hall("monk 0 1;").monk(0, 1), 0);
        KIT.same("99", KIT.hall("bald 0099 1;").monk(0, 1), 99);
        faultAt("clerk ^9999 1;", 2);
        BeardHall hall = KIT.hall("monk 99 1;");
        hall.years(30);
        KIT.same("years go on", hall.monk(0, 1), 129);
    }

    // 'LENGTH (0 to 60 breadths; never more than it may have: KNEE; of a clerk 5 or KNEE, if that is less; of a bald one 0)'
    private static void lengths() {
        for (int length = 0; length <= 62; length++) {
            for (String word : MONKS) {
                String text = word + " 1 " + length + ";";
                fault(text, length > 60 ? 2 : 0, length > 60 ? word.length() + 3 : -1);
            }
        }
        for (int knee = 1; knee <= 60; knee++) {
            BeardHall hall = KIT.hall("knee " + knee + ";monk 1 60;clerk 1 60;bald 1 60;plait 1 60;monk 1 " + (knee - 1) + ";clerk 1 4;");
            int[] may = {knee, Math.min(5, knee), 0, knee, knee, Math.min(5, knee)};
            int[] has = {knee, Math.min(5, knee), 0, knee, knee - 1, Math.min(4, knee)};
            for (int monk = 0; monk < 6; monk++) {
                KIT.same("what it may have, KNEE " + knee, hall.monk(monk, 3), may[monk]);
                KIT.same("LENGTH, KNEE " + knee, hall.monk(monk, 2), has[monk]);
            }
        }
        BeardHall without = KIT.hall("monk 1 60;monk 1 39;monk 1 40;monk 1 41;");
        int[] due = {40, 39, 40, 40};
        for (int monk = 0; monk < 4; monk++) {
            KIT.same("without a KNEE", without.monk(monk, 2), due[monk]);
        }
    }

    // 'ENTRIES 0, 1 .. (at most 24)'; FAULT 2: 'the first TOKEN of .. the 25th ENTRY'
    private static void atMostEntries() {
        StringBuilder text = new StringBuilder("monk 1 1;monk 1 1;");
        for (int many = 1; many <= 23; many++) {
            text.append(ENTRIES[many % 4]).append(" 0 0 0 0;");
        }
        BeardHall hall = KIT.hall(text.toString());
        KIT.same("ENTRIES", hall.count(1), 23);
        fine(text + "copy 0 1 0;");
        for (String last : new String[] {"note 0 60 0 0;", "copy 3 1 0;"}) {
            KIT.same("the 24th", KIT.hall(text + last).count(1), 24);
            for (String word : ENTRIES) {
                faultAt(text + last + "^" + word + " 0 0 0 0;", 2);
                faultAt(text + last + "^" + word, 2);
            }
            faultAt(text + last + "^copy 0 1 0;", 2);
            faultAt(text + last + "\n^copy", 2);
            fine(text + last + "monk 1 1;grey 1;reads 1;");
        }
    }

    // 'AGO (0 to 60)', 'ABOUT what it is (0 to 7), VALUE (0 to 999), DYE (0 to 7; 0 undyed)'
    private static void entryNumbers() {
        String one = "knee 60;monk 1 60;";
        for (String word : ENTRIES) {
            for (int i = 0; i <= 62; i++) {
                fault(one + word + " 0 " + i + " 0 0;", i > 60 ? 2 : 0, i > 60 ? one.length() + word.length() + 3 : -1);
            }
            for (int i = 0; i <= 9; i++) {
                fault(one + word + " 0 0 " + i + " 0;", i > 7 ? 2 : 0, i > 7 ? one.length() + word.length() + 5 : -1);
                fault(one + word + " 0 0 0 0 dyed " + i + ";", i > 7 ? 2 : 0, i > 7 ? one.length() + word.length() + 14 : -1);
            }
            for (int i = 990; i <= 1002; i++) {
                fault(one + word + " 0 0 0 " + i + ";", i > 999 ? 2 : 0, i > 999 ? one.length() + word.length() + 7 : -1);
            }
        }
        int[][] told = {{0, 0, 0, 0}, {60, 7, 999, 7}};
        for (int[] t : told) {
            BeardHall hall = KIT.hall(one + "grant 0 " + t[0] + " " + t[1] + " " + t[2] + " dyed " + t[3] + ";");
            int[] due = {2, 0, -t[0], t[1], t[2], t[3], 0, 0, 1, t[0]};
            for (int what = 0; what < due.length; what++) {
                KIT.same("entry(0, " + what + ")", hall.entry(0, what), due[what]);
            }
        }
        KIT.same("undyed is 0", KIT.hall(one + "law 0 0 0 0;").entry(0, 5), 0);
        KIT.same("not KNOTTED", KIT.hall(one + "law 0 0 0 0;").entry(0, 6), 0);
        KIT.same("KNOTTED", KIT.hall(one + "law 0 0 0 0 knot;").entry(0, 6), 1);
    }

    // 'KNEE (1 to 60; 40 without). GREY (1 to 99; 60 without) .. DAILY (1 to 9; 3 without)'
    private static void settings() {
        String[] words = {"knee", "grey", "daily"};
        int[] most = {60, 99, 9};
        int[] without = {40, 60, 3};
        for (int i = 0; i < 3; i++) {
            for (int number = 0; number <= most[i] + 2; number++) {
                boolean fine = number >= 1 && number <= most[i];
                String text = words[i] + " " + number + ";";
                fault(text, fine ? 0 : 2, fine ? -1 : words[i].length() + 1);
                if (fine) {
                    KIT.same(text, KIT.hall(text).count(2 + i), number);
                }
            }
            faultAt(words[i] + " ^0000;", 2);
            faultAt(words[i] + " ^9999;", 2);
            KIT.same("without " + words[i], KIT.hall("monk 1 1;").count(2 + i), without[i]);
        }
        fine("monk 1 1;grey 1;daily 1;");
    }

    // 'its RECORD (itself; of a copy the RECORD of what it is copied from)'; 'a copy is as what it is copied from but for
    // MONK and YEAR (and not KNOTTED)'
    private static void copies() {
        BeardHall hall = KIT.hall("monk 1 9;monk 1 9;monk 1 9;note 0 0 0 0;grant 0 2 7 999 dyed 7 knot;copy 1 1 9;copy 2 2 0;");
        int[][] due = {{2, 0, -2, 7, 999, 7, 1, 1, 1, 2}, {2, 1, -9, 7, 999, 7, 0, 1, 1, 9}, {2, 2, 0, 7, 999, 7, 0, 1, 1, 0}};
        for (int entry = 1; entry <= 3; entry++) {
            for (int what = 0; what < 10; what++) {
                KIT.same("entry(" + entry + ", " + what + ")", hall.entry(entry, what), due[entry - 1][what]);
            }
        }
        String two = "monk 1 9;monk 1 9;law 0 0 0 0;";
        for (int ago = 0; ago <= 62; ago++) {
            fault(two + "copy 0 1 " + ago + ";", ago > 60 ? 2 : 0, ago > 60 ? two.length() + 9 : -1);
        }
    }

    // 'A TEXT of at most 700 bytes tells it.'
    private static void longestText() {
        StringBuilder text = new StringBuilder("monk 1 1;law 0 0 0 0;reads 0");
        while (text.length() < 698) {
            text.append("+0");
        }
        text.append(" ;");
        KIT.same("700 bytes", text.length(), 700);
        KIT.same("a rule to the end", KIT.hall(text.toString()).may(0, 0), false);
        text.setCharAt(697, '1');
        KIT.same("whose last NUMBER counts", KIT.hall(text.toString()).may(0, 0), true);
        text.setCharAt(698, '2');
        KIT.same("and its last digit", KIT.hall(text.toString()).may(0, 0), true);
        text.setCharAt(699, '!');
        fault(text.toString(), 1, 699);
        text.setCharAt(699, ' ');
        fault(text.toString(), 1, 700);
        lastToken("mon", 1, 697);
        lastToken("m", 1, 699);
        lastToken("k", 1, 699);
        lastToken("monk", 1, 700);
        lastToken("monk 1", 1, 700);
        lastToken("monk 1 1", 1, 700);
        lastToken("monk 1 1;", 0, -1);
        lastToken("monk 12345", 2, 695);
        lastToken("grey 0", 2, 699);
        lastToken("grey 9;", 0, -1);
        lastToken("law 0", 3, 699);
        lastToken("reads ag", 3, 698);
        lastToken("reads age", 1, 700);
        lastToken("reads not", 1, 700);
        lastToken("reads 1 o", 1, 699);
        lastToken("reads 1;", 0, -1);
        lastToken("reads (", 1, 700);
        lastToken("", 0, -1);
    }

    /** A text of 700 bytes, blanks and then this. */
    private static void lastToken(String end, int due, int place) {
        fault(" ".repeat(700 - end.length()) + end, due, place);
    }

    // 'TOKENS: words (a .. z, the longest row), NUMBERS (1 to 4 digits), signs'
    private static void tokens() {
        fine("monk1 1;");
        fine("monk 1 1;law0 0 0 0dyed 1knot;");
        faultAt("^monkclerk 1 1;", 1);
        faultAt("monk 1 1;law 0 0 0 0 ^dyedknot;", 1);
        faultAt("reads 1 ^oror 1;", 1);
        faultAt("reads ^nota;", 3);
        fine("reads not(own)and(1)or(0);");
        fine("reads 1and 1or 0;");
        faultAt("^Monk 1 1;", 1);
        faultAt("^mon 1 1;", 1);
        faultAt("monk 1 1;^{", 1);
        faultAt("monk 1 1;^`", 1);
        faultAt("reads 1^:1;", 1);
        faultAt("reads 1^>1;", 1);
        faultAt("reads 1^,1;", 1);
        faultAt("reads 1^.1;", 1);
        for (int digits = 1; digits <= 8; digits++) {
            String number = "0".repeat(digits - 1) + "1";
            fault("monk " + number + " 1;", digits > 4 ? 2 : 0, digits > 4 ? 5 : -1);
            fault("reads " + number + ";", digits > 4 ? 2 : 0, digits > 4 ? 6 : -1);
        }
        fine("reads 9999;");
        faultAt("reads ^10000;", 2);
        faultAt("reads ^99999999999999999999;", 2);
    }

    // 'blanks (32, 10) between them count for nothing'
    private static void blanks() {
        for (int sign = 0; sign < 256; sign++) {
            boolean blank = sign == 32 || sign == 10;
            boolean digit = sign >= '0' && sign <= '9';
            fault((char) sign + "grey 1;", blank ? 0 : 1, blank ? -1 : 0);
            fault("gr" + (char) sign + "ey 1;", 1, 0);
            if (sign != ';') {
                fault("grey 1" + (char) sign + ";", blank || digit ? 0 : 1, blank || digit ? -1 : 6);
            }
        }
        fine("");
        fine(" ");
        fine("\n \n");
        fine("  monk\n1\n1\n;\n");
        KIT.same("between digits they part", TestKit.archive(new BeardHall(), "monk 1 1 1;"), 1);
    }

    // FAULT 1: '(the text's length where it ends too soon)'
    private static void endsTooSoon() {
        String[] texts = {"monk", "monk 1", "monk 1 1", "law", "copy", "knee", "knee 1", "reads", "reads 1", "reads 1+", "reads (", "reads (1",
            "reads not", "reads 1 or", "reads 1 and", "reads 1<", "reads 1*", "reads 1/", "reads 1-", "reads 1="};
        for (String text : texts) {
            fault(text, 1, text.length());
            fault(text + " \n ", 1, text.length() + 3);
        }
        String two = "monk 1 9;monk 1 9;law 0 0 0 0;";
        String[] behind = {"law 0", "law 0 0", "law 0 0 0", "law 0 0 0 0", "law 0 0 0 0 dyed", "law 0 0 0 0 dyed 1", "law 0 0 0 0 knot",
            "copy 0", "copy 0 1", "copy 0 1 0"};
        for (String text : behind) {
            fault(two + text, 1, two.length() + text.length());
        }
    }

    // FAULT 1: 'a TOKEN that can't stand there, or is none'
    private static void cannotStand() {
        String[] others = {"7", "12345", "(", ")", "+", "-", "*", "/", "<", "=", ";", "or", "and", "not", "dyed", "knot", "kind", "own", "zz", "!", "\t"};
        for (String token : others) {
            faultAt("^" + token, 1);
            faultAt("monk 1 1;^" + token + " 1 1;", 1);
        }
        String[] noNumbers = {"monk", "x", "(", ")", "+", "-", "<", ";", "!", "own"};
        for (String token : noNumbers) {
            faultAt("monk ^" + token + " 1;", 1);
            faultAt("monk 1 ^" + token + ";", 1);
            faultAt("knee ^" + token + ";", 1);
            faultAt("grey ^" + token + ";", 1);
            faultAt("daily ^" + token + ";", 1);
            String two = "monk 1 9;monk 1 9;law 0 0 0 0;";
            faultAt(two + "law ^" + token + " 0 0 0;", 1);
            faultAt(two + "law 0 ^" + token + " 0 0;", 1);
            faultAt(two + "law 0 0 ^" + token + " 0;", 1);
            faultAt(two + "law 0 0 0 ^" + token + ";", 1);
            faultAt(two + "law 0 0 0 0 dyed ^" + token + ";", 1);
            faultAt(two + "copy ^" + token + " 1 0;", 1);
            faultAt(two + "copy 0 ^" + token + " 0;", 1);
            faultAt(two + "copy 0 1 ^" + token + ";", 1);
        }
        for (String token : new String[] {"1", "12345", "monk", "dyed", "knot", "(", "+", "own"}) {
            faultAt("monk 1 1 ^" + token + ";", 1);
            faultAt("knee 1 ^" + token + ";", 1);
            faultAt("monk 1 9;monk 1 9;law 0 0 0 0;copy 0 1 0 ^" + token + ";", 1);
            faultAt("monk 1 9;law 0 0 0 0 knot ^" + token + ";", 1);
        }
        for (String token : new String[] {"1", "own", "zz", "not", "(", "knot", "12345", "!"}) {
            faultAt("reads own ^" + token + ";", 1);
            faultAt("reads (own ^" + token + ");", 1);
        }
        for (String sign : new String[] {";", ")", "+", "-", "*", "/", "<", "="}) {
            faultAt("reads ^" + sign + "1;", 1);
            faultAt("reads (^" + sign + "1;", 1);
            faultAt("reads 1+^" + sign + "1;", 1);
            faultAt("reads not ^" + sign + "1;", 1);
            faultAt("reads 1 or ^" + sign + "1;", 1);
        }
        faultAt("reads 1<1^<1;", 1);
        faultAt("reads 1=1^<1;", 1);
        faultAt("reads 1=1^=1;", 1);
        fine("reads (1<1)<1;");
        fine("reads not 1<1 and 1=1;");
        faultAt("monk 1 9;law 0 0 0 0 knot ^dyed 1;", 1);
        fine("monk 1 9;law 0 0 0 0 dyed 1 knot;");
    }

    // FAULT 2: 'a NUMBER of 5 digits or more'
    private static void longNumbers() {
        String two = "monk 1 9;monk 1 9;law 0 0 0 0;";
        faultAt("monk ^00000 1;", 2);
        faultAt("monk 0 ^00000;", 2);
        faultAt("knee ^00001;", 2);
        faultAt("grey ^00001;", 2);
        faultAt("daily ^00001;", 2);
        faultAt(two + "law ^00000 0 0 0;", 2);
        faultAt(two + "law 0 ^00000 0 0;", 2);
        faultAt(two + "law 0 0 ^00000 0;", 2);
        faultAt(two + "law 0 0 0 ^00000;", 2);
        faultAt(two + "law 0 0 0 0 dyed ^00000;", 2);
        faultAt(two + "copy ^00000 1 0;", 2);
        faultAt(two + "copy 0 ^00001 0;", 2);
        faultAt(two + "copy 0 1 ^00000;", 2);
        faultAt("reads ^00001;", 2);
        faultAt("reads 1+(2*^00001);", 2);
        fine(two + "law 0000 0000 0000 0000 dyed 0000;copy 0000 0001 0000;");
    }

    // FAULT 2: 'the first TOKEN .. of an EXPR within 6 others (a NUMBER, any word, a parenthesis)'
    private static void depths() {
        for (int deep = 0; deep <= 9; deep++) {
            String open = "(".repeat(deep);
            String close = ")".repeat(deep);
            fault("reads " + open + "1" + close + ";", deep >= 6 ? 2 : 0, deep >= 6 ? 12 : -1);
            fault("reads 1+" + open + "1" + close + "*2;", deep >= 6 ? 2 : 0, deep >= 6 ? 14 : -1);
            fault("reads not " + open + "own" + close + " or 1;", deep >= 6 ? 2 : 0, deep >= 6 ? 16 : -1);
        }
        String six = "reads ((((((";
        for (String token : new String[] {"1", "9999", "12345", "(", "not", "own", "grey", "or", "and", "monk", "zz"}) {
            faultAt(six + "^" + token, 2);
            faultAt(six + "\n ^" + token + "))))));", 2);
        }
        for (String token : new String[] {")", "+", "-", "*", "/", "<", "=", ";", "!", ""}) {
            faultAt(six + "^" + token, 1);
        }
        fine("reads (((((1)))))or(((((1)))));");
        fine("reads ((1)+((1)*((1)<((1)or(1)))));");
        faultAt("reads (1+(1+(1+(1+(1+(^1))))));", 2);
        fine("reads (1+(1+(1+(1+(1+1)))));");
    }

    // FAULT 2: 'the seventh 'not' side by side'
    private static void nots() {
        for (int many = 0; many <= 9; many++) {
            String text = "reads " + "not ".repeat(many) + "own;";
            fault(text, many >= 7 ? 2 : 0, many >= 7 ? 6 + 4 * 6 : -1);
            String later = "reads 1 or " + "not ".repeat(many) + "own;";
            fault(later, many >= 7 ? 2 : 0, many >= 7 ? 11 + 4 * 6 : -1);
        }
        fine("reads not not not not not not(not not not not not not own);");
        fine("reads not not not not own and not not not not own;");
        faultAt("reads (not not not not not not ^not 1);", 2);
        faultAt("reads not not not not not not ^not", 2);
        faultAt("reads not not not not not not ^zz;", 3);
        faultAt("reads not not not not not not ^;", 1);
    }

    // FAULT 3: 'any word where a PART must stand that is no VALUE'
    private static void noValue() {
        for (String word : VALUES) {
            fine("reads " + word + ";");
            fine("reads 1+" + word + "*(" + word + ")<" + word + ";");
        }
        for (String word : OTHER_WORDS) {
            faultAt("reads ^" + word + ";", 3);
            faultAt("reads not ^" + word + ";", 3);
            faultAt("reads 1+^" + word + ";", 3);
            faultAt("reads 1*^" + word + ";", 3);
            faultAt("reads 1<^" + word + ";", 3);
            faultAt("reads 1 or ^" + word + ";", 3);
            faultAt("reads 1 and ^" + word + ";", 3);
            faultAt("reads (^" + word + ");", 3);
            faultAt("reads (((((^" + word + ")))));", 3);
        }
        for (String sign : new String[] {"+", "-", "*", "/", "<", "="}) {
            faultAt("reads 1" + sign + "^not 1;", 3);
        }
    }

    // FAULT 3: 'a MONK, an ENTRY that isn't told ahead'
    private static void notTold() {
        String text = "";
        for (int many = 0; many <= 6; many++) {
            for (int monk = 0; monk <= 7; monk++) {
                fault(text + "law " + monk + " 0 0 0;", monk < many ? 0 : 3, monk < many ? -1 : text.length() + 4);
            }
            faultAt(text + "note ^9999 0 0 0;", 3);
            text = text + "monk 1 1;";
        }
        String entries = "monk 1 1;monk 1 1;";
        for (int many = 0; many <= 5; many++) {
            for (int entry = 0; entry <= 6; entry++) {
                fault(entries + "copy " + entry + " 1 0;", entry < many ? 0 : 3, entry < many ? -1 : entries.length() + 5);
            }
            faultAt(entries + "copy ^24 1 0;", 3);
            faultAt(entries + "copy ^9999 1 0;", 3);
            entries = entries + "law 0 0 0 0;";
        }
        faultAt("monk 1 1;law 0 0 0 0;copy 0 ^1 0;monk 1 1;", 3);
        faultAt("monk 1 1;law 0 0 0 0;copy 0 ^6 0;", 3);
        faultAt("monk 1 1;law 0 0 0 0;copy 0 ^9999 0;", 3);
        faultAt("law ^0 0 0 0;monk 1 1;", 3);
        faultAt("copy ^0 0 0;", 3);
    }

    // FAULT 4: 'the MONK of a copy who holds its RECORD already'
    private static void holdsAlready() {
        String two = "monk 1 9;monk 1 9;monk 1 9;law 0 0 0 0;law 0 0 0 0;";
        faultAt(two + "copy 0 ^0 0;", 4);
        fine(two + "copy 0 1 0;copy 1 1 0;");
        faultAt(two + "copy 0 1 0;copy 0 ^1 0;", 4);
        faultAt(two + "copy 0 1 0;copy 2 ^0 0;", 4);
        faultAt(two + "copy 0 1 0;copy 2 ^1 0;", 4);
        faultAt(two + "copy 0 1 0;copy 2 2 0;copy 0 ^2 0;", 4);
        faultAt(two + "copy 0 1 0;copy 2 2 0;copy 3 ^0 61;", 4);
        faultAt(two + "copy 0 ^0", 4);
        faultAt(two + "copy 0 ^0 x", 4);
        // hair holds what is THERE: what was GONE from the beginning it doesn't
        fine("monk 1 9;monk 1 2;law 0 0 0 0;copy 0 1 3;copy 0 1 2;");
        faultAt("monk 1 9;monk 1 2;law 0 0 0 0;copy 0 1 2;copy 0 ^1 2;", 4);
        fine("monk 1 2;law 0 3 0 0;copy 0 0 0;");
        faultAt("monk 1 2;law 0 2 0 0;copy 0 ^0 0;", 4);
    }

    // FAULT 5: 'a second 'knee', 'grey', 'daily', 'reads''; FAULT 6: 'a 'knee' behind a MONK (ahead of 5)'
    private static void seconds() {
        for (String word : new String[] {"knee", "grey", "daily", "reads"}) {
            faultAt(word + " 1;^" + word + " 1;", 5);
            faultAt(word + " 1;\n^" + word, 5);
            faultAt(word + " 1;^" + word + " 0;", 5);
        }
        faultAt("reads 1;monk 1 1;law 0 0 0 0;^reads foo;", 5);
        for (String word : new String[] {"knee", "grey", "daily", "reads"}) {
            for (String other : new String[] {"knee", "grey", "daily", "reads"}) {
                if (!word.equals(other)) {
                    faultAt(word + " 1;" + other + " 1;^" + word + " 1;", 5);
                    faultAt(word + " 1;" + other + " 1;^" + other + " 1;", 5);
                }
            }
        }
        fine("knee 1;grey 1;daily 1;reads 1;");
        fine("reads 1;daily 1;grey 1;knee 1;monk 1 1;");
        for (String word : MONKS) {
            faultAt(word + " 1 1;^knee 1;", 6);
            faultAt(word + " 1 1;^knee", 6);
            faultAt("knee 2;" + word + " 1 1;^knee 1;", 6);
            fine(word + " 1 1;grey 1;daily 1;reads 1;");
            faultAt("grey 1;" + word + " 1 1;^grey 1;", 5);
        }
    }

    // 'FAULTS, the first along the text, at a TOKEN's first byte'
    private static void firstAlong() {
        faultAt("monk 1 1;law ^3 0 0 0;!", 3);
        faultAt("monk 1 1;^knee 1;monk 100 1;", 6);
        faultAt("grey 1;^grey 100;x", 5);
        faultAt("monk ^100 x;", 2);
        faultAt("monk 1 1;law ^1 61 8 1000 dyed 8;", 3);
        faultAt("monk 1 1;law 0 ^61 8 1000 dyed 8;", 2);
        faultAt("monk 1 1;law 0 0 0 0;copy 0 ^0 61", 4);
        faultAt("monk 1 1;law 0 0 0 0;copy ^1 0 61", 3);
        faultAt("reads ^foobar;", 3);
        faultAt("reads 1  + \n  ^foo + 12345;", 3);
        faultAt("reads 1  + \n  ^12345 + foo;", 2);
    }

    // 'of one TOKEN the least'
    private static void leastOfOne() {
        faultAt("monk 1 1;law ^12345 0 0 0;", 2);
        faultAt("monk 1 1;law 0 0 0 0;copy ^12345 0 0;", 2);
        faultAt("monk 1 1;law 0 0 0 0;copy 0 ^00000 0;", 2);
        faultAt("reads ((((((^zz))))));", 2);
        faultAt("reads ((((((^12345))))));", 2);
        faultAt("monk 1 1 ^12345;", 1);
        faultAt("reads 1 ^12345;", 1);
        faultAt("reads 1 ^zz;", 1);
        String full = "monk 1 1;" + "law 0 0 0 0;".repeat(24);
        faultAt(full + "^copy 99 9 99", 2);
        faultAt(full + "^law 9", 2);
        faultAt(full + "^lawn", 1);
    }
}
