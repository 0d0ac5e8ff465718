import java.util.Arrays;
import java.util.NoSuchElementException;

/** Archives kept in beards: who holds what, who may read it, and what is lost by razors, moths and years. */
public final class BeardHall {
    public static final int NONE = -1;

    private static final int CONTESTED = -2;
    private static final int WITHOUT_END = -2;

    private static final int MOST_BYTES = 700;
    private static final int BYTES_FED = 20;
    private static final int MOST_MONKS = 6;
    private static final int MOST_ENTRIES = 24;
    private static final int MOST_ACTS = 40;
    private static final int MOST_SEEN = 8;
    private static final int MOST_BREADTHS = 60;
    private static final int ENDLESS = 0x7fffffff;
    private static final int MOST_YEARS_AT_ONCE = 30;
    private static final int LAST_YEAR = 999;
    private static final int MOST_ABOUT = 7;
    private static final int MOST_VALUE = 999;
    private static final int LAST_DAY = 6;
    private static final int ABOUT_ALL = -1;

    private static final int CLERK = 1;
    private static final int BALD = 2;
    private static final int PLAIT = 3;

    private static final int LAW = 0;
    private static final int DEBT = 1;
    private static final int GRANT = 2;
    private static final int LAST_KIND = 3;

    // What entry() tells by these numbers stands in an ENTRY's cells under the same ones.
    private static final int CELLS = 8;
    private static final int KIND = 0;
    private static final int HOLDER = 1;
    private static final int BRAIDED = 2;
    private static final int ABOUT = 3;
    private static final int VALUE = 4;
    private static final int DYE = 5;
    private static final int KNOTTED = 6;
    private static final int RECORD = 7;
    private static final int IS_THERE = 8;
    private static final int BREADTHS = 9;

    private static final int REFUSED_TEXTS = 0;
    private static final int REFUSED_ACTS = 1;
    private static final int REFUSED_SEEN = 2;
    private static final int ALL_STATUS = 3;

    private final byte[] tape = new byte[MOST_BYTES];
    private int tapeLength;
    private int faultPlace = NONE;
    private final int[] status = new int[ALL_STATUS];
    private final Reader reader = new Reader(tape);
    private final Roll roll = new Roll();
    private final Hair hair = new Hair(roll);
    private final Acts acts = new Acts();
    private final Seen seen = new Seen();
    private final Image kept = new Image(roll);
    private final Laws laws = new Laws(hair);
    private final Keeping keeping = new Keeping(hair);
    private final Game barberGame = new Game(hair);
    private final Season weather = new Season(roll);

    public BeardHall() {
        roll.clear();
        hair.begin();
    }

    // ---- the text

    public int feed(int a, int b, int c, int d, int e) {
        if (tapeLength + BYTES_FED > MOST_BYTES) {
            return NONE;
        }
        putBytes(a);
        putBytes(b);
        putBytes(c);
        putBytes(d);
        putBytes(e);
        return tapeLength;
    }

    private void putBytes(int number) {
        for (int shift = 24; shift >= 0; shift -= 8) {
            if (tapeLength < MOST_BYTES) {
                tape[tapeLength] = (byte) (number >>> shift);
                tapeLength++;
            }
        }
    }

    public int archive(int n) throws IllegalArgumentException {
        if (n < 0 || n > tapeLength) {
            throw new IllegalArgumentException("the tape has not so many bytes");
        }
        tapeLength = 0;
        reader.read(n);
        if (reader.fault != 0) {
            faultPlace = reader.place;
            status[REFUSED_TEXTS]++;
            return reader.fault;
        }
        faultPlace = NONE;
        roll.take(reader.roll);
        hair.take(reader.hair);
        acts.many = 0;
        seen.many = 0;
        kept.there = false;
        return 0;
    }

    public int fault() {
        return faultPlace;
    }

    // ---- what there is

    public int count(int what) throws NoSuchElementException {
        switch (what) {
            case 0: return roll.monks;
            case 1: return hair.entries;
            case 2: return roll.knee;
            case 3: return roll.grey;
            case 4: return roll.daily;
            case 5: return hair.year;
            case 6: return Integer.bitCount(hair.allThere());
            case 7: return Integer.bitCount(hair.recordsThere());
            case 8: return hair.deadOnes();
            case 9: return acts.many;
            case 10: return seen.many;
            case 11: return tapeLength;
            case 12: return status[REFUSED_TEXTS];
            case 13: return status[REFUSED_ACTS];
            case 14: return status[REFUSED_SEEN];
            default: throw new NoSuchElementException("no such count");
        }
    }

    public int monk(int monk, int what) throws NoSuchElementException {
        needMonk(monk);
        switch (what) {
            case 0: return roll.kinds[monk];
            case 1: return hair.ageOf(monk);
            case 2: return hair.length[monk];
            case 3: return roll.longest(monk);
            case 4: return hair.isGrey(monk) ? 1 : 0;
            case 5: return Integer.bitCount(hair.thereOf(monk));
            default: throw new NoSuchElementException("no such thing of a monk");
        }
    }

    public int entry(int entry, int what) throws NoSuchElementException {
        needEntry(entry);
        if (what < 0 || what > BREADTHS) {
            throw new NoSuchElementException("no such thing of an entry");
        }
        switch (what) {
            case KNOTTED: return hair.isKnotted(entry) ? 1 : 0;
            case IS_THERE: return hair.isThere(entry) ? 1 : 0;
            case BREADTHS: return hair.breadths(entry);
            default: return roll.cell(entry, what);
        }
    }

    public int holders(int entry) throws NoSuchElementException {
        needEntry(entry);
        return hair.monksWith(roll.cell(entry, RECORD));
    }

    public boolean may(int monk, int entry) throws NoSuchElementException {
        needMonk(monk);
        needEntry(entry);
        if (!hair.isThere(entry)) {
            return false;
        }
        int holder = roll.cell(entry, HOLDER);
        if (roll.kinds[holder] == PLAIT) {
            return monk == holder;
        }
        if (roll.rule.isNone()) {
            return monk == holder || !hair.isGrey(holder);
        }
        tellRule(monk, entry, holder);
        return roll.rule.holds();
    }

    private void tellRule(int reading, int entry, int holder) {
        int[] values = roll.rule.values;
        values[Rule.KIND_VALUE] = roll.cell(entry, KIND);
        values[Rule.DYE_VALUE] = roll.cell(entry, DYE);
        values[Rule.ABOUT_VALUE] = roll.cell(entry, ABOUT);
        values[Rule.OLD_VALUE] = hair.breadths(entry);
        values[Rule.GREY_VALUE] = hair.isGrey(holder) ? 1 : 0;
        values[Rule.OWN_VALUE] = reading == holder ? 1 : 0;
        values[Rule.AGE_VALUE] = hair.ageOf(reading);
    }

    // ---- acts

    public int years(int many) {
        if (many < 1 || many > MOST_YEARS_AT_ONCE || hair.year + many > LAST_YEAR) {
            return refuseAct();
        }
        acts.keep(hair);
        hair.pass(many);
        return hair.year;
    }

    public int braid(int monk, int kind, int about, int value) throws NoSuchElementException {
        needMonk(monk);
        if (hair.isFull() || hair.isDead(monk) || !isKind(kind) || !isAbout(about) || !isWithin(value, MOST_VALUE)) {
            return refuseAct();
        }
        acts.keep(hair);
        return hair.braidIn(monk, hair.year, kind, about, value);
    }

    public int copy(int entry, int monk) throws NoSuchElementException {
        needEntry(entry);
        needMonk(monk);
        if (hair.isFull() || !hair.isThere(entry) || hair.isDead(monk) || hair.holds(monk, roll.cell(entry, RECORD))) {
            return refuseAct();
        }
        acts.keep(hair);
        return hair.copyInto(entry, monk, hair.year);
    }

    public boolean knot(int entry) throws NoSuchElementException {
        needEntry(entry);
        if (!mayBeHandled(entry)) {
            refuseAct();
            return false;
        }
        acts.keep(hair);
        hair.tie(entry);
        return true;
    }

    public boolean comb(int entry) throws NoSuchElementException {
        needEntry(entry);
        if (!mayBeHandled(entry)) {
            refuseAct();
            return false;
        }
        acts.keep(hair);
        hair.lose(1 << entry);
        return true;
    }

    private boolean mayBeHandled(int entry) {
        return hair.isThere(entry) && !hair.isKnotted(entry) && !hair.isDead(roll.cell(entry, HOLDER));
    }

    public int shave(int monk, int length) throws NoSuchElementException {
        needMonk(monk);
        if (length < 0 || length >= hair.length[monk]) {
            return refuseAct();
        }
        acts.keep(hair);
        return hair.shaveTo(monk, length);
    }

    public int moths(int monk, int from, int to) throws NoSuchElementException {
        needMonk(monk);
        if (!isWithin(from, MOST_BREADTHS) || !isWithin(to, MOST_BREADTHS) || to < from) {
            return refuseAct();
        }
        acts.keep(hair);
        return hair.lose(hair.eatable(monk, from, to));
    }

    public boolean die(int monk) throws NoSuchElementException {
        needMonk(monk);
        if (hair.isDead(monk)) {
            refuseAct();
            return false;
        }
        acts.keep(hair);
        hair.died[monk] = hair.year;
        return true;
    }

    public int undo() {
        if (acts.many == 0) {
            return NONE;
        }
        acts.takeBack(hair);
        return acts.many;
    }

    private int refuseAct() {
        status[REFUSED_ACTS]++;
        return NONE;
    }

    // ---- what is asked of ENTRIES that are THERE

    public int law(int about) throws NoSuchElementException {
        needAbout(about);
        return laws.standing(about);
    }

    public int rivals() {
        return laws.rivalCouples();
    }

    public int owed(int about) throws NoSuchElementException {
        needAbout(about);
        return laws.balance(about);
    }

    public int cover() {
        return keeping.fewestWithAll();
    }

    public int alone() {
        return keeping.heldByOne();
    }

    public int barbers(int many) throws IllegalArgumentException {
        if (!isWithin(many, MOST_MONKS)) {
            throw new IllegalArgumentException("not 0 to 6 barbers");
        }
        return keeping.worstToShave(many);
    }

    public int shortest(int monk) throws NoSuchElementException {
        needMonk(monk);
        return keeping.leastLength(monk);
    }

    public int amnesty(int monk, int wide, int what) throws NoSuchElementException, IllegalArgumentException {
        needMonk(monk);
        needOneOf(what, 1);
        if (!isWithin(wide, 9)) {
            throw new IllegalArgumentException("not 0 to 9 breadths more");
        }
        int from = keeping.bestForDebtors(monk, wide);
        return what == 0 ? keeping.debtsEaten(monk, from, wide) : from;
    }

    public int week(int monk, int day) throws NoSuchElementException {
        needMonk(monk);
        if (day < NONE || day > LAST_DAY) {
            throw new NoSuchElementException("no such day");
        }
        return keeping.readOn(monk, day);
    }

    public int oldest(int kind, int about) throws NoSuchElementException {
        needAbout(about);
        if (!isKind(kind)) {
            throw new NoSuchElementException("no such kind");
        }
        return laws.earliest(kind, about);
    }

    public int believed(int about) throws NoSuchElementException {
        needAbout(about);
        return laws.mostHeld(about);
    }

    public int until(int entry) throws NoSuchElementException {
        needEntry(entry);
        return hair.isThere(entry) ? keeping.yearsLeft(entry) : NONE;
    }

    public int doomed(int years) throws IllegalArgumentException {
        if (!isWithin(years, MOST_BREADTHS)) {
            throw new IllegalArgumentException("not 0 to 60 years");
        }
        return keeping.lostWithin(years);
    }

    public int safest() {
        return keeping.bestForBraiding();
    }

    public int heir(int monk) throws NoSuchElementException {
        needMonk(monk);
        return keeping.mostAlike(monk);
    }

    public int lice(int monk) throws NoSuchElementException {
        needMonk(monk);
        return keeping.audit(monk);
    }

    // ---- what is SEEN, the game, the season, the image

    public int see(int entry, boolean there) throws NoSuchElementException {
        needEntry(entry);
        if (seen.many >= MOST_SEEN) {
            status[REFUSED_SEEN]++;
            return NONE;
        }
        seen.add(entry, there);
        return seen.many;
    }

    public int ate(int monk, int what) throws NoSuchElementException {
        needMonk(monk);
        needOneOf(what, 1);
        return what == 0 ? seen.waysToEat(hair, monk) : seen.firstToEat(hair, monk);
    }

    public int forget() {
        if (seen.many == 0) {
            return NONE;
        }
        seen.many--;
        return seen.many;
    }

    public int game(int what) throws NoSuchElementException {
        needOneOf(what, 1);
        barberGame.tellGains();
        return what == 0 ? barberGame.resting() : barberGame.firstResting();
    }

    public int season(int seed, int n, int what) throws NoSuchElementException, IllegalArgumentException {
        needOneOf(what, 2);
        if (!isWithin(n, 40)) {
            throw new IllegalArgumentException("not 0 to 40 years");
        }
        weather.run(hair, seed, n);
        switch (what) {
            case 0: return Integer.bitCount(weather.hair.recordsThere());
            case 1: return weather.laws.balance(ABOUT_ALL);
            default: return weather.yearsOfLoss;
        }
    }

    public void image() {
        kept.there = true;
        kept.hair.take(hair);
        System.arraycopy(roll.cells, 0, kept.cells, 0, roll.cells.length);
        kept.acts.take(acts);
        kept.seen.take(seen);
        System.arraycopy(status, 0, kept.status, 0, ALL_STATUS);
    }

    public boolean restore() {
        if (!kept.there) {
            return false;
        }
        hair.take(kept.hair);
        System.arraycopy(kept.cells, 0, roll.cells, 0, roll.cells.length);
        acts.take(kept.acts);
        seen.take(kept.seen);
        System.arraycopy(kept.status, 0, status, 0, ALL_STATUS);
        return true;
    }

    // ---- what a call's numbers must be

    private void needMonk(int monk) {
        if (monk < 0 || monk >= roll.monks) {
            throw new NoSuchElementException("no such monk");
        }
    }

    private void needEntry(int entry) {
        if (entry < 0 || entry >= hair.entries) {
            throw new NoSuchElementException("no such entry");
        }
    }

    private static void needAbout(int about) {
        if (!isAbout(about)) {
            throw new NoSuchElementException("about no such thing");
        }
    }

    private static void needOneOf(int what, int last) {
        if (!isWithin(what, last)) {
            throw new NoSuchElementException("no such answer");
        }
    }

    private static boolean isKind(int kind) {
        return isWithin(kind, LAST_KIND);
    }

    private static boolean isAbout(int about) {
        return isWithin(about, MOST_ABOUT);
    }

    private static boolean isWithin(int number, int most) {
        return number >= 0 && number <= most;
    }

    private static boolean hasBit(int bits, int place) {
        return (bits >>> place & 1) != 0;
    }

    /** What no ACT changes: MONKS, what was told of them, and each ENTRY that was ever braided in. */
    private static final class Roll {
        int monks;
        int knee;
        int grey;
        int daily;
        final int[] kinds = new int[MOST_MONKS];
        final int[] ages = new int[MOST_MONKS];
        final int[] cells = new int[MOST_ENTRIES * CELLS];
        final Rule rule = new Rule();

        void clear() {
            monks = 0;
            knee = 40;
            grey = 60;
            daily = 3;
            rule.clear();
        }

        void take(Roll other) {
            monks = other.monks;
            knee = other.knee;
            grey = other.grey;
            daily = other.daily;
            System.arraycopy(other.kinds, 0, kinds, 0, MOST_MONKS);
            System.arraycopy(other.ages, 0, ages, 0, MOST_MONKS);
            System.arraycopy(other.cells, 0, cells, 0, cells.length);
            rule.take(other.rule);
        }

        int cell(int entry, int what) {
            return cells[entry * CELLS + what];
        }

        void put(int entry, int what, int number) {
            cells[entry * CELLS + what] = number;
        }

        int longest(int monk) {
            switch (kinds[monk]) {
                case CLERK: return Math.min(5, knee);
                case BALD: return 0;
                default: return knee;
            }
        }
    }

    /** What ACTS change; ENTRIES as bits, so that what would be is asked of other bits than what is. */
    private static final class Hair {
        static final int ALIVE = -1;
        static final int WIDTH = 4 + 2 * MOST_MONKS;

        final Roll roll;
        final int[] length = new int[MOST_MONKS];
        final int[] died = new int[MOST_MONKS];
        int year;
        int entries;
        int gone;
        int knotted;

        Hair(Roll roll) {
            this.roll = roll;
        }

        void begin() {
            year = 0;
            entries = 0;
            gone = 0;
            knotted = 0;
            Arrays.fill(length, 0);
            Arrays.fill(died, ALIVE);
        }

        void take(Hair other) {
            year = other.year;
            entries = other.entries;
            gone = other.gone;
            knotted = other.knotted;
            System.arraycopy(other.length, 0, length, 0, MOST_MONKS);
            System.arraycopy(other.died, 0, died, 0, MOST_MONKS);
        }

        void writeTo(int[] rows, int at) {
            rows[at] = year;
            rows[at + 1] = entries;
            rows[at + 2] = gone;
            rows[at + 3] = knotted;
            System.arraycopy(length, 0, rows, at + 4, MOST_MONKS);
            System.arraycopy(died, 0, rows, at + 4 + MOST_MONKS, MOST_MONKS);
        }

        void readFrom(int[] rows, int at) {
            year = rows[at];
            entries = rows[at + 1];
            gone = rows[at + 2];
            knotted = rows[at + 3];
            System.arraycopy(rows, at + 4, length, 0, MOST_MONKS);
            System.arraycopy(rows, at + 4 + MOST_MONKS, died, 0, MOST_MONKS);
        }

        boolean isDead(int monk) {
            return died[monk] != ALIVE;
        }

        int deadOnes() {
            int bits = 0;
            for (int monk = 0; monk < roll.monks; monk++) {
                if (isDead(monk)) {
                    bits |= 1 << monk;
                }
            }
            return bits;
        }

        /** The YEAR for a MONK: it stands still for the dead. */
        int yearOf(int monk) {
            return died[monk] == ALIVE ? year : died[monk];
        }

        int ageOf(int monk) {
            return roll.ages[monk] + yearOf(monk);
        }

        boolean isGrey(int monk) {
            return ageOf(monk) >= roll.grey;
        }

        int breadths(int entry) {
            return yearOf(roll.cell(entry, HOLDER)) - roll.cell(entry, BRAIDED);
        }

        boolean isFull() {
            return entries >= MOST_ENTRIES;
        }

        boolean isThere(int entry) {
            return hasBit(allThere(), entry);
        }

        boolean isKnotted(int entry) {
            return hasBit(knotted, entry);
        }

        int allThere() {
            return (1 << entries) - 1 & ~gone;
        }

        int thereOf(int monk) {
            int bits = 0;
            for (int entry = 0; entry < entries; entry++) {
                if (roll.cell(entry, HOLDER) == monk) {
                    bits |= 1 << entry;
                }
            }
            return bits & ~gone;
        }

        /** RECORDS of which some ENTRY is among these bits. */
        int recordsOf(int bits) {
            int records = 0;
            for (int entry = 0; entry < entries; entry++) {
                if (hasBit(bits, entry)) {
                    records |= 1 << roll.cell(entry, RECORD);
                }
            }
            return records;
        }

        int recordsThere() {
            return recordsOf(allThere());
        }

        int recordsHeldBy(int monk) {
            return recordsOf(thereOf(monk));
        }

        boolean holds(int monk, int record) {
            return hasBit(monksWith(record), monk);
        }

        int monksWith(int record) {
            int all = allThere();
            int bits = 0;
            for (int entry = 0; entry < entries; entry++) {
                if (hasBit(all, entry) && roll.cell(entry, RECORD) == record) {
                    bits |= 1 << roll.cell(entry, HOLDER);
                }
            }
            return bits;
        }

        /** RECORDS that are THERE and would not be, if these ENTRIES were lost. */
        int recordsLostBy(int bits) {
            int all = allThere();
            return recordsOf(all) & ~recordsOf(all & ~bits);
        }

        /** VALUES of a KIND among these RECORDS. */
        int valuesOf(int records, int kind) {
            int sum = 0;
            for (int entry = 0; entry < entries; entry++) {
                if (hasBit(records, entry) && roll.cell(entry, KIND) == kind) {
                    sum += roll.cell(entry, VALUE);
                }
            }
            return sum;
        }

        int beyond(int monk, int breadth) {
            return between(monk, breadth + 1, ENDLESS);
        }

        int eatable(int monk, int from, int to) {
            return roll.kinds[monk] == PLAIT ? 0 : between(monk, from, to) & ~knotted;
        }

        private int between(int monk, int from, int to) {
            int held = thereOf(monk);
            int bits = 0;
            for (int entry = 0; entry < entries; entry++) {
                int breadth = breadths(entry);
                if (hasBit(held, entry) && breadth >= from && breadth <= to) {
                    bits |= 1 << entry;
                }
            }
            return bits;
        }

        int lose(int bits) {
            gone |= bits;
            return Integer.bitCount(bits);
        }

        int shaveTo(int monk, int breadth) {
            length[monk] = breadth;
            return lose(beyond(monk, breadth));
        }

        void tie(int entry) {
            knotted |= 1 << entry;
        }

        void pass(int many) {
            year += many;
            for (int monk = 0; monk < roll.monks; monk++) {
                if (!isDead(monk)) {
                    length[monk] = Math.min(length[monk] + many, roll.longest(monk));
                    lose(beyond(monk, length[monk]));
                }
            }
        }

        int braidIn(int monk, int when, int kind, int about, int value) {
            int entry = entries;
            roll.put(entry, KIND, kind);
            roll.put(entry, HOLDER, monk);
            roll.put(entry, BRAIDED, when);
            roll.put(entry, ABOUT, about);
            roll.put(entry, VALUE, value);
            roll.put(entry, DYE, 0);
            roll.put(entry, RECORD, entry);
            settle(entry, monk);
            return entry;
        }

        int copyInto(int from, int monk, int when) {
            int entry = entries;
            System.arraycopy(roll.cells, from * CELLS, roll.cells, entry * CELLS, CELLS);
            roll.put(entry, HOLDER, monk);
            roll.put(entry, BRAIDED, when);
            settle(entry, monk);
            return entry;
        }

        // An ENTRY that was UNDONE may have had this number and left its bits.
        private void settle(int entry, int monk) {
            int bit = 1 << entry;
            entries = entry + 1;
            knotted &= ~bit;
            gone &= ~bit;
            if (breadths(entry) > length[monk]) {
                gone |= bit;
            }
        }
    }

    /** How it was ahead of each ACT that is kept. */
    private static final class Acts {
        final int[] rows = new int[MOST_ACTS * Hair.WIDTH];
        int many;

        void keep(Hair hair) {
            if (many >= MOST_ACTS) {
                System.arraycopy(rows, Hair.WIDTH, rows, 0, rows.length - Hair.WIDTH);
                many = MOST_ACTS - 1;
            }
            hair.writeTo(rows, many * Hair.WIDTH);
            many++;
        }

        void takeBack(Hair hair) {
            if (many > 0) {
                many--;
                hair.readFrom(rows, many * Hair.WIDTH);
            }
        }

        void take(Acts other) {
            many = other.many;
            System.arraycopy(other.rows, 0, rows, 0, many * Hair.WIDTH);
        }
    }

    /** What is SEEN, and by which moths it would be so. */
    private static final class Seen {
        static final int MOST_BREADTH = 20;

        final int[] entries = new int[MOST_SEEN];
        final int[] there = new int[MOST_SEEN];
        int many;

        void take(Seen other) {
            many = other.many;
            System.arraycopy(other.entries, 0, entries, 0, MOST_SEEN);
            System.arraycopy(other.there, 0, there, 0, MOST_SEEN);
        }

        void add(int entry, boolean isThere) {
            if (many < MOST_SEEN) {
                entries[many] = entry;
                there[many] = isThere ? 1 : 0;
                many++;
            }
        }

        int waysToEat(Hair hair, int monk) {
            int ways = 0;
            for (int from = 0; from <= MOST_BREADTH; from++) {
                for (int to = from; to <= MOST_BREADTH; to++) {
                    if (wouldBeSo(hair, hair.eatable(monk, from, to))) {
                        ways++;
                    }
                }
            }
            return ways;
        }

        int firstToEat(Hair hair, int monk) {
            for (int from = 0; from <= MOST_BREADTH; from++) {
                for (int to = from; to <= MOST_BREADTH; to++) {
                    if (wouldBeSo(hair, hair.eatable(monk, from, to))) {
                        return 100 * from + to;
                    }
                }
            }
            return NONE;
        }

        private boolean wouldBeSo(Hair hair, int eaten) {
            int left = hair.allThere() & ~eaten;
            for (int i = 0; i < many; i++) {
                if ((left >>> entries[i] & 1) != there[i]) {
                    return false;
                }
            }
            return true;
        }
    }

    /** The IMAGE, with rows of its own, so that keeping one makes nothing. */
    private static final class Image {
        boolean there;
        final Hair hair;
        final int[] cells = new int[MOST_ENTRIES * CELLS];
        final Acts acts = new Acts();
        final Seen seen = new Seen();
        final int[] status = new int[ALL_STATUS];

        Image(Roll roll) {
            hair = new Hair(roll);
        }
    }

    /** What ENTRIES that are THERE say: laws, debts, grants. */
    private static final class Laws {
        final Hair hair;
        final Roll roll;

        Laws(Hair hair) {
            this.hair = hair;
            this.roll = hair.roll;
        }

        private boolean isThereOf(int entry, int kind, int about) {
            return hair.isThere(entry) && roll.cell(entry, KIND) == kind && roll.cell(entry, ABOUT) == about;
        }

        int standing(int about) {
            int latest = NONE;
            int answer = NONE;
            for (int entry = 0; entry < hair.entries; entry++) {
                if (isThereOf(entry, LAW, about)) {
                    int value = roll.cell(entry, VALUE);
                    int when = roll.cell(entry, BRAIDED);
                    if (latest == NONE || when > roll.cell(latest, BRAIDED)) {
                        latest = entry;
                        answer = value;
                    } else if (when == roll.cell(latest, BRAIDED) && value != roll.cell(latest, VALUE)) {
                        answer = CONTESTED;
                    }
                }
            }
            return answer;
        }

        int rivalCouples() {
            int couples = 0;
            for (int one = 0; one < roll.monks; one++) {
                for (int other = one + 1; other < roll.monks; other++) {
                    if (areRivals(one, other)) {
                        couples++;
                    }
                }
            }
            return couples;
        }

        private boolean areRivals(int one, int other) {
            int ofOne = hair.thereOf(one);
            int ofOther = hair.thereOf(other);
            for (int a = 0; a < hair.entries; a++) {
                for (int b = 0; b < hair.entries; b++) {
                    if (hasBit(ofOne, a) && hasBit(ofOther, b) && differ(a, b)) {
                        return true;
                    }
                }
            }
            return false;
        }

        private boolean differ(int a, int b) {
            return roll.cell(a, KIND) == LAW && roll.cell(b, KIND) == LAW
                && roll.cell(a, ABOUT) == roll.cell(b, ABOUT)
                && roll.cell(a, BRAIDED) == roll.cell(b, BRAIDED)
                && roll.cell(a, VALUE) != roll.cell(b, VALUE);
        }

        int balance(int about) {
            int records = hair.recordsThere();
            int sum = 0;
            for (int record = 0; record < hair.entries; record++) {
                if (hasBit(records, record) && (about == ABOUT_ALL || roll.cell(record, ABOUT) == about)) {
                    sum += owing(record);
                }
            }
            return sum;
        }

        private int owing(int record) {
            switch (roll.cell(record, KIND)) {
                case DEBT: return roll.cell(record, VALUE);
                case GRANT: return -roll.cell(record, VALUE);
                default: return 0;
            }
        }

        int earliest(int kind, int about) {
            int first = NONE;
            for (int entry = 0; entry < hair.entries; entry++) {
                if (isThereOf(entry, kind, about)
                    && (first == NONE || roll.cell(entry, BRAIDED) < roll.cell(first, BRAIDED))) {
                    first = entry;
                }
            }
            return first;
        }

        int mostHeld(int about) {
            int best = NONE;
            int most = 0;
            for (int entry = 0; entry < hair.entries; entry++) {
                if (isThereOf(entry, LAW, about)) {
                    int value = roll.cell(entry, VALUE);
                    int believers = Integer.bitCount(monksSaying(about, value));
                    if (believers > most || believers == most && value < best) {
                        best = value;
                        most = believers;
                    }
                }
            }
            return best;
        }

        private int monksSaying(int about, int value) {
            int bits = 0;
            for (int entry = 0; entry < hair.entries; entry++) {
                if (isThereOf(entry, LAW, about) && roll.cell(entry, VALUE) == value) {
                    bits |= 1 << roll.cell(entry, HOLDER);
                }
            }
            return bits;
        }
    }

    /** Who keeps what, and what would be lost. */
    private static final class Keeping {
        final Hair hair;
        final Roll roll;
        final int[] ofMonk = new int[MOST_MONKS];

        Keeping(Hair hair) {
            this.hair = hair;
            this.roll = hair.roll;
        }

        private int unionOf(int monks) {
            int bits = 0;
            for (int monk = 0; monk < roll.monks; monk++) {
                if (hasBit(monks, monk)) {
                    bits |= ofMonk[monk];
                }
            }
            return bits;
        }

        int fewestWithAll() {
            for (int monk = 0; monk < roll.monks; monk++) {
                ofMonk[monk] = hair.recordsHeldBy(monk);
            }
            int all = hair.recordsThere();
            int sets = 1 << roll.monks;
            int best = sets - 1;
            for (int monks = 0; monks < sets; monks++) {
                if (Integer.bitCount(monks) < Integer.bitCount(best) && unionOf(monks) == all) {
                    best = monks;
                }
            }
            return best;
        }

        int heldByOne() {
            int records = hair.recordsThere();
            int many = 0;
            for (int record = 0; record < hair.entries; record++) {
                if (hasBit(records, record) && Integer.bitCount(hair.monksWith(record)) == 1) {
                    many++;
                }
            }
            return many;
        }

        int worstToShave(int many) {
            int shavable = shavableOnes();
            int size = Math.min(many, Integer.bitCount(shavable));
            int best = 0;
            int most = NONE;
            for (int monks = 0; monks < 1 << roll.monks; monks++) {
                if ((monks & ~shavable) == 0 && Integer.bitCount(monks) == size) {
                    int lost = Integer.bitCount(hair.recordsLostBy(unionOf(monks)));
                    if (lost > most) {
                        best = monks;
                        most = lost;
                    }
                }
            }
            return best;
        }

        private int shavableOnes() {
            int bits = 0;
            for (int monk = 0; monk < roll.monks; monk++) {
                ofMonk[monk] = hair.beyond(monk, 0);
                if (roll.kinds[monk] != PLAIT) {
                    bits |= 1 << monk;
                }
            }
            return bits;
        }

        int leastLength(int monk) {
            int whole = hair.length[monk];
            for (int length = 0; length < whole; length++) {
                if (hair.recordsLostBy(hair.beyond(monk, length)) == 0) {
                    return length;
                }
            }
            return whole;
        }

        int bestForDebtors(int monk, int wide) {
            int best = 0;
            int most = NONE;
            for (int from = 0; from <= MOST_BREADTHS; from++) {
                int debts = debtsEaten(monk, from, wide);
                if (debts > most) {
                    best = from;
                    most = debts;
                }
            }
            return best;
        }

        int debtsEaten(int monk, int from, int wide) {
            return hair.valuesOf(hair.recordsLostBy(hair.eatable(monk, from, from + wide)), DEBT);
        }

        int readOn(int monk, int day) {
            int held = hair.thereOf(monk);
            int many = 0;
            for (int entry = 0; entry < hair.entries; entry++) {
                if (hasBit(held, entry) && dayOf(entry) == day) {
                    many++;
                }
            }
            return many;
        }

        private int dayOf(int entry) {
            int day = roll.daily > 0 ? hair.breadths(entry) / roll.daily : 0;
            return day > LAST_DAY ? NONE : day;
        }

        int yearsLeft(int entry) {
            int holder = roll.cell(entry, HOLDER);
            return hair.isDead(holder) ? WITHOUT_END : roll.longest(holder) - hair.breadths(entry);
        }

        int lostWithin(int years) {
            int lost = 0;
            for (int entry = 0; entry < hair.entries; entry++) {
                int left = yearsLeft(entry);
                if (left != WITHOUT_END && left < years) {
                    lost |= 1 << entry;
                }
            }
            return Integer.bitCount(hair.recordsLostBy(lost));
        }

        int bestForBraiding() {
            int best = NONE;
            for (int monk = 0; monk < roll.monks; monk++) {
                if (!hair.isDead(monk) && (best == NONE || roll.longest(monk) > roll.longest(best))) {
                    best = monk;
                }
            }
            return best;
        }

        int mostAlike(int monk) {
            int records = hair.recordsHeldBy(monk);
            int best = NONE;
            int most = NONE;
            for (int other = 0; other < roll.monks; other++) {
                int shared = Integer.bitCount(records & hair.recordsHeldBy(other));
                if (other != monk && !hair.isDead(other) && shared > most) {
                    best = other;
                    most = shared;
                }
            }
            return best;
        }

        int audit(int monk) {
            int held = hair.thereOf(monk);
            int sum = 0;
            for (int entry = 0; entry < hair.entries; entry++) {
                if (hasBit(held, entry)) {
                    sum += roll.cell(entry, VALUE) * (hair.breadths(entry) + 1);
                }
            }
            return sum % 97;
        }
    }

    /** Two powers, each with one barber. */
    private static final class Game {
        final Hair hair;
        final Roll roll;
        final int[] shorn = new int[MOST_MONKS];
        final int[] lawsGained = new int[MOST_MONKS * MOST_MONKS];
        final int[] debtsGained = new int[MOST_MONKS * MOST_MONKS];

        Game(Hair hair) {
            this.hair = hair;
            this.roll = hair.roll;
        }

        private static int couple(int one, int two) {
            return one * MOST_MONKS + two;
        }

        void tellGains() {
            for (int monk = 0; monk < roll.monks; monk++) {
                shorn[monk] = hair.beyond(monk, 0);
            }
            for (int one = 0; one < roll.monks; one++) {
                for (int two = 0; two < roll.monks; two++) {
                    int lost = hair.recordsLostBy(shorn[one] | shorn[two]);
                    lawsGained[couple(one, two)] = hair.valuesOf(lost, LAW);
                    debtsGained[couple(one, two)] = hair.valuesOf(lost, DEBT);
                }
            }
        }

        private boolean isShavable(int monk) {
            return roll.kinds[monk] != PLAIT;
        }

        private boolean rests(int one, int two) {
            if (!isShavable(one) || !isShavable(two)) {
                return false;
            }
            for (int another = 0; another < roll.monks; another++) {
                if (isShavable(another)
                    && (lawsGained[couple(another, two)] > lawsGained[couple(one, two)]
                        || debtsGained[couple(one, another)] > debtsGained[couple(one, two)])) {
                    return false;
                }
            }
            return true;
        }

        int resting() {
            int many = 0;
            for (int one = 0; one < roll.monks; one++) {
                for (int two = 0; two < roll.monks; two++) {
                    if (rests(one, two)) {
                        many++;
                    }
                }
            }
            return many;
        }

        int firstResting() {
            for (int one = 0; one < roll.monks; one++) {
                for (int two = 0; two < roll.monks; two++) {
                    if (rests(one, two)) {
                        return 10 * one + two;
                    }
                }
            }
            return NONE;
        }
    }

    /** Years that might come, on hair of its own: nothing of them is so afterwards. */
    private static final class Season {
        final Hair hair;
        final Laws laws;
        int seed;
        int yearsOfLoss;

        Season(Roll roll) {
            hair = new Hair(roll);
            laws = new Laws(hair);
        }

        void run(Hair now, int firstSeed, int n) {
            hair.take(now);
            seed = firstSeed;
            yearsOfLoss = 0;
            for (int i = 0; i < n; i++) {
                int before = hair.recordsThere();
                if (hair.roll.monks > 0) {
                    visit(draw(hair.roll.monks));
                }
                hair.pass(1);
                if (hair.recordsThere() != before) {
                    yearsOfLoss++;
                }
            }
        }

        private void visit(int monk) {
            int what = draw(3);
            if (what == 0) {
                int from = draw(20);
                hair.lose(hair.eatable(monk, from, from + 2));
            } else if (what == 1) {
                int length = draw(20);
                if (length < hair.length[monk]) {
                    hair.shaveTo(monk, length);
                }
            }
        }

        private int draw(int many) {
            seed = seed * 1103515245 + 12345;
            return many > 0 ? (seed >>> 16 & 0x7fff) % many : 0;
        }
    }

    /** READS: numbers, VALUES and what is done with them, each behind what it is done with. */
    private static final class Rule {
        static final int KIND_VALUE = 0;
        static final int DYE_VALUE = 1;
        static final int ABOUT_VALUE = 2;
        static final int OLD_VALUE = 3;
        static final int OWN_VALUE = 4;
        static final int AGE_VALUE = 5;
        static final int GREY_VALUE = 6;
        static final int ALL_VALUES = 7;

        // A code from 0 on is a number, one from -ALL_VALUES to -1 a VALUE.
        static final int FIRST_VALUE = -1;
        static final int OR = -11;
        static final int AND = -12;
        static final int NOT = -13;
        static final int LESS = -14;
        static final int EQUAL = -15;
        static final int PLUS = -16;
        static final int MINUS = -17;
        static final int TIMES = -18;
        static final int OVER = -19;

        // Five numbers can wait in each of six EXPRS for the sixth's last PART.
        static final int MOST_WAITING = 40;

        final int[] codes = new int[MOST_BYTES];
        final int[] values = new int[ALL_VALUES];
        final int[] waiting = new int[MOST_WAITING];
        int many;

        void clear() {
            many = 0;
        }

        void take(Rule other) {
            many = other.many;
            System.arraycopy(other.codes, 0, codes, 0, many);
        }

        boolean isNone() {
            return many == 0;
        }

        void add(int code) {
            if (many < MOST_BYTES) {
                codes[many] = code;
                many++;
            }
        }

        boolean holds() {
            int top = 0;
            for (int i = 0; i < many; i++) {
                int code = codes[i];
                if (code >= -ALL_VALUES && top < MOST_WAITING) {
                    waiting[top] = code >= 0 ? code : values[FIRST_VALUE - code];
                    top++;
                } else if (code == NOT && top >= 1) {
                    waiting[top - 1] = truth(waiting[top - 1] == 0);
                } else if (code < -ALL_VALUES && top >= 2) {
                    waiting[top - 2] = joined(code, waiting[top - 2], waiting[top - 1]);
                    top--;
                }
            }
            return waiting[0] != 0;
        }

        private static int joined(int code, int left, int right) {
            switch (code) {
                case OR: return truth(left != 0 || right != 0);
                case AND: return truth(left != 0 && right != 0);
                case LESS: return truth(left < right);
                case EQUAL: return truth(left == right);
                case PLUS: return left + right;
                case MINUS: return left - right;
                case TIMES: return left * right;
                case OVER: return right == 0 ? 0 : left / right;
                default: return 0;
            }
        }

        private static int truth(boolean holds) {
            return holds ? 1 : 0;
        }
    }

    /** Reads a text into a roll and hair of its own, so that a text with a FAULT changes nothing else. */
    private static final class Reader {
        static final int UNFIT = 1;
        static final int TOO_MUCH = 2;
        static final int UNTOLD = 3;
        static final int HELD_ALREADY = 4;
        static final int TOLD_TWICE = 5;
        static final int KNEE_BEHIND = 6;

        static final int MOST_DEPTH = 6;
        static final int MOST_NOTS = 6;
        static final int MOST_DIGITS = 4;

        // A TOKEN is one of these, a sign's own byte, or from ANY_WORD on a word: that, or 1 more than its place in WORDS.
        static final int END = 1;
        static final int NOTHING = 2;
        static final int NUMBER = 3;
        static final int LONG_NUMBER = 4;
        static final int ANY_WORD = 100;
        static final String WORDS = "monk clerk bald plait law debt grant note copy knee grey daily reads dyed knot or and not kind dye about old own age ";
        static final int WORD_MONK = 101;
        static final int WORD_PLAIT = 104;
        static final int WORD_LAW = 105;
        static final int WORD_NOTE = 108;
        static final int WORD_COPY = 109;
        static final int WORD_KNEE = 110;
        static final int WORD_GREY = 111;
        static final int WORD_DAILY = 112;
        static final int WORD_READS = 113;
        static final int WORD_DYED = 114;
        static final int WORD_KNOT = 115;
        static final int WORD_OR = 116;
        static final int WORD_AND = 117;
        static final int WORD_NOT = 118;
        static final int WORD_KIND = 119;
        static final int WORD_AGE = 124;

        final Roll roll = new Roll();
        final Hair hair = new Hair(roll);
        final byte[] text;
        int length;
        int start;
        int end;
        int token;
        int number;
        int told;
        int fault;
        int place;

        Reader(byte[] text) {
            this.text = text;
        }

        void read(int n) {
            length = Math.min(n, text.length);
            end = 0;
            told = 0;
            fault = 0;
            place = NONE;
            roll.clear();
            hair.begin();
            advance();
            for (int line = 0; line < MOST_BYTES && fault == 0 && token != END; line++) {
                if (token >= WORD_MONK && token <= WORD_PLAIT) {
                    readMonk(token - WORD_MONK);
                } else if (token >= WORD_LAW && token <= WORD_NOTE) {
                    readEntry(token - WORD_LAW);
                } else if (token == WORD_COPY) {
                    readCopy();
                } else if (token >= WORD_KNEE && token <= WORD_READS) {
                    readSetting(token);
                } else {
                    fail(UNFIT);
                }
                expect(';');
            }
        }

        private void fail(int what) {
            if (fault == 0) {
                fault = what;
                place = start;
            }
        }

        // ---- tokens

        private void advance() {
            start = end;
            for (int i = end; i < length && isBlank(text[i]); i++) {
                start = i + 1;
            }
            end = start;
            if (start >= length) {
                token = END;
            } else if (isLetter(text[start])) {
                takeWord();
            } else if (isDigit(text[start])) {
                takeDigits();
            } else {
                token = isSign(text[start]) ? text[start] : NOTHING;
                end = start + 1;
            }
        }

        private void takeWord() {
            for (int i = start; i < length && isLetter(text[i]); i++) {
                end = i + 1;
            }
            token = ANY_WORD;
            int word = WORD_MONK;
            int at = start;
            boolean same = true;
            for (int i = 0; i < WORDS.length(); i++) {
                char letter = WORDS.charAt(i);
                if (letter != ' ') {
                    same = same && at < end && text[at] == letter;
                    at++;
                } else {
                    if (same && at == end) {
                        token = word;
                    }
                    word++;
                    at = start;
                    same = true;
                }
            }
        }

        private void takeDigits() {
            number = 0;
            for (int i = start; i < length && isDigit(text[i]); i++) {
                number = number * 10 + text[i] - '0';
                end = i + 1;
            }
            token = end - start > MOST_DIGITS ? LONG_NUMBER : NUMBER;
        }

        private static boolean isBlank(int sign) {
            return sign == ' ' || sign == 10;
        }

        private static boolean isLetter(int sign) {
            return sign >= 'a' && sign <= 'z';
        }

        private static boolean isDigit(int sign) {
            return sign >= '0' && sign <= '9';
        }

        private static boolean isSign(int sign) {
            switch (sign) {
                case ';': case '(': case ')': case '+': case '-': case '*': case '/': case '<': case '=':
                    return true;
                default:
                    return false;
            }
        }

        private void expect(int sign) {
            if (fault == 0) {
                if (token == sign) {
                    advance();
                } else {
                    fail(UNFIT);
                }
            }
        }

        private void needNumber() {
            if (token == LONG_NUMBER) {
                fail(TOO_MUCH);
            } else if (token != NUMBER) {
                fail(UNFIT);
            }
        }

        /** A NUMBER that is taken, or 0 if there is a FAULT, here or ahead. */
        private int takeNumber(int least, int most) {
            if (fault == 0) {
                needNumber();
            }
            if (fault == 0 && (number < least || number > most)) {
                fail(TOO_MUCH);
            }
            return takenOrNone();
        }

        private int takeTold(int many) {
            if (fault == 0) {
                needNumber();
            }
            if (fault == 0 && number >= many) {
                fail(UNTOLD);
            }
            return takenOrNone();
        }

        private int takeCopier(int record) {
            if (fault == 0) {
                needNumber();
            }
            if (fault == 0 && number >= roll.monks) {
                fail(UNTOLD);
            }
            if (fault == 0 && hair.holds(number, record)) {
                fail(HELD_ALREADY);
            }
            return takenOrNone();
        }

        private int takenOrNone() {
            if (fault != 0) {
                return 0;
            }
            int taken = number;
            advance();
            return taken;
        }

        // ---- lines

        private void readMonk(int kind) {
            if (roll.monks >= MOST_MONKS) {
                fail(TOO_MUCH);
                return;
            }
            advance();
            int age = takeNumber(0, 99);
            int breadths = takeNumber(0, MOST_BREADTHS);
            if (fault == 0) {
                int monk = roll.monks;
                roll.monks++;
                roll.kinds[monk] = kind;
                roll.ages[monk] = age;
                hair.length[monk] = Math.min(breadths, roll.longest(monk));
            }
        }

        private void readEntry(int kind) {
            if (hair.isFull()) {
                fail(TOO_MUCH);
                return;
            }
            advance();
            int monk = takeTold(roll.monks);
            int ago = takeNumber(0, MOST_BREADTHS);
            int about = takeNumber(0, MOST_ABOUT);
            int value = takeNumber(0, MOST_VALUE);
            if (fault == 0) {
                int entry = hair.braidIn(monk, -ago, kind, about, value);
                if (token == WORD_DYED) {
                    advance();
                    roll.put(entry, DYE, takeNumber(0, 7));
                }
                if (fault == 0 && token == WORD_KNOT) {
                    advance();
                    hair.tie(entry);
                }
            }
        }

        private void readCopy() {
            if (hair.isFull()) {
                fail(TOO_MUCH);
                return;
            }
            advance();
            int from = takeTold(hair.entries);
            int monk = takeCopier(fault == 0 ? roll.cell(from, RECORD) : 0);
            int ago = takeNumber(0, MOST_BREADTHS);
            if (fault == 0) {
                hair.copyInto(from, monk, -ago);
            }
        }

        private void readSetting(int word) {
            int bit = 1 << word - WORD_KNEE;
            if (word == WORD_KNEE && roll.monks > 0) {
                fail(KNEE_BEHIND);
                return;
            }
            if ((told & bit) != 0) {
                fail(TOLD_TWICE);
                return;
            }
            told |= bit;
            advance();
            switch (word) {
                case WORD_KNEE: roll.knee = takeNumber(1, MOST_BREADTHS); break;
                case WORD_GREY: roll.grey = takeNumber(1, 99); break;
                case WORD_DAILY: roll.daily = takeNumber(1, 9); break;
                default: readExpr(1); break;
            }
        }

        // ---- EXPR; depth 1 is the whole rule

        private void readExpr(int depth) {
            if (depth > MOST_DEPTH) {
                fail(canBegin() ? TOO_MUCH : UNFIT);
                return;
            }
            readAnd(depth);
            for (int i = 0; i < MOST_BYTES && fault == 0 && token == WORD_OR; i++) {
                advance();
                readAnd(depth);
                roll.rule.add(Rule.OR);
            }
        }

        private boolean canBegin() {
            return token == NUMBER || token == LONG_NUMBER || token >= ANY_WORD || token == '(';
        }

        private void readAnd(int depth) {
            readNot(depth);
            for (int i = 0; i < MOST_BYTES && fault == 0 && token == WORD_AND; i++) {
                advance();
                readNot(depth);
                roll.rule.add(Rule.AND);
            }
        }

        private void readNot(int depth) {
            int nots = 0;
            for (int i = 0; i < MOST_NOTS && token == WORD_NOT; i++) {
                nots++;
                advance();
            }
            if (token == WORD_NOT) {
                fail(TOO_MUCH);
                return;
            }
            readTest(depth);
            for (int i = 0; i < nots; i++) {
                roll.rule.add(Rule.NOT);
            }
        }

        private void readTest(int depth) {
            readSum(depth);
            if (fault == 0 && (token == '<' || token == '=')) {
                int code = token == '<' ? Rule.LESS : Rule.EQUAL;
                advance();
                readSum(depth);
                roll.rule.add(code);
            }
        }

        private void readSum(int depth) {
            readProduct(depth);
            for (int i = 0; i < MOST_BYTES && fault == 0 && (token == '+' || token == '-'); i++) {
                int code = token == '+' ? Rule.PLUS : Rule.MINUS;
                advance();
                readProduct(depth);
                roll.rule.add(code);
            }
        }

        private void readProduct(int depth) {
            readPart(depth);
            for (int i = 0; i < MOST_BYTES && fault == 0 && (token == '*' || token == '/'); i++) {
                int code = token == '*' ? Rule.TIMES : Rule.OVER;
                advance();
                readPart(depth);
                roll.rule.add(code);
            }
        }

        private void readPart(int depth) {
            if (token == '(') {
                advance();
                readExpr(depth + 1);
                expect(')');
            } else if (token == WORD_GREY) {
                roll.rule.add(Rule.FIRST_VALUE - Rule.GREY_VALUE);
                advance();
            } else if (token >= WORD_KIND && token <= WORD_AGE) {
                roll.rule.add(Rule.FIRST_VALUE - (token - WORD_KIND));
                advance();
            } else if (token >= ANY_WORD) {
                fail(UNTOLD);
            } else {
                needNumber();
                if (fault == 0) {
                    roll.rule.add(number);
                    advance();
                }
            }
        }
    }
}
