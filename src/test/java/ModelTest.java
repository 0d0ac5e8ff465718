import java.util.ArrayList;
import java.util.List;
import java.util.Random;

/** Runs of drawn calls, texts among them, each answer against PlainHall's; UNDONE is there a copy from ahead of the ACT. */
public final class ModelTest {
    private static final TestKit KIT = new TestKit("ModelTest");
    private static final int RUNS = 400;
    private static final int CALLS = 150;

    private final Random random;
    private final BeardHall hall = new BeardHall();
    private PlainHall plain = new PlainHall();
    private List<PlainHall> acts = new ArrayList<>();
    private List<int[]> seen = new ArrayList<>();
    private int[] status = new int[3];
    private PlainHall imagePlain;
    private List<PlainHall> imageActs;
    private List<int[]> imageSeen;
    private int[] imageStatus;
    private String run;

    private ModelTest(int seed) {
        random = new Random(seed);
        run = "run " + seed + " ";
    }

    public static void main(String[] args) {
        for (int seed = 0; seed < RUNS; seed++) {
            ModelTest test = new ModelTest(seed);
            test.begin();
            for (int call = 0; call < CALLS; call++) {
                if (random100(test) < 45) {
                    test.act();
                } else {
                    test.ask();
                }
                test.compare();
            }
        }
        KIT.end();
    }

    private static int random100(ModelTest test) {
        return test.random.nextInt(100);
    }

    private int upTo(int most) {
        return random.nextInt(most + 1);
    }

    private void same(String what, int got, int due) {
        KIT.same(run + what, got, due);
    }

    private void begin() {
        StringBuilder text = new StringBuilder();
        plain = new PlainHall();
        acts.clear();
        seen.clear();
        imagePlain = null;
        if (upTo(1) == 0) {
            plain.knee = 1 + upTo(59);
            text.append("knee ").append(plain.knee).append(';');
        }
        if (upTo(1) == 0) {
            plain.grey = 1 + upTo(98);
            text.append("grey ").append(plain.grey).append(';');
        }
        if (upTo(1) == 0) {
            plain.daily = 1 + upTo(8);
            text.append("daily ").append(plain.daily).append(';');
        }
        int monks = upTo(6);
        for (int i = 0; i < monks; i++) {
            int kind = upTo(9) < 5 ? 0 : upTo(3);
            int age = upTo(99);
            int length = upTo(60);
            plain.addMonk(kind, age, length);
            text.append(new String[] {"monk", "clerk", "bald", "plait"}[kind]).append(' ').append(age).append(' ').append(length).append(';');
        }
        int lines = monks == 0 ? 0 : upTo(16);
        for (int i = 0; i < lines; i++) {
            line(text, monks);
        }
        same("archive " + text, TestKit.archive(hall, text.toString()), 0);
    }

    private void line(StringBuilder text, int monks) {
        int monk = upTo(monks - 1);
        int ago = upTo(3) == 0 ? upTo(60) : upTo(12);
        if (!plain.entries.isEmpty() && upTo(2) == 0) {
            int from = upTo(plain.entries.size() - 1);
            if (!plain.holds(monk, plain.entries.get(from).record)) {
                plain.addCopy(from, monk, ago);
                text.append("copy ").append(from).append(' ').append(monk).append(' ').append(ago).append(';');
            }
            return;
        }
        int kind = upTo(3);
        int about = upTo(2);
        int value = upTo(1) == 0 ? upTo(3) : upTo(999);
        PlainHall.Entry entry = plain.entries.get(plain.addEntry(kind, monk, ago, about, value));
        text.append(new String[] {"law", "debt", "grant", "note"}[kind]).append(' ').append(monk).append(' ').append(ago)
            .append(' ').append(about).append(' ').append(value);
        if (upTo(2) == 0) {
            entry.dye = upTo(7);
            text.append(" dyed ").append(entry.dye);
        }
        if (upTo(3) == 0) {
            entry.knot = true;
            text.append(" knot");
        }
        text.append(';');
    }

    private void keep() {
        acts.add(plain.copy());
        if (acts.size() > 40) {
            acts.remove(0);
        }
    }

    private int refuse() {
        status[1]++;
        return -1;
    }

    /** Another ARCHIVE in the midst of a run, or a text with a FAULT at its end, behind which all stays. */
    private void texts() {
        if (upTo(1) == 0) {
            begin();
            return;
        }
        String good = "knee 3;grey 2;daily 1;bald 1 1;plait 9 9;law 0 0 0 7 knot;copy 0 1 2;reads 0;";
        same("a FAULT", TestKit.archive(hall, good + "knee 4;"), 6);
        same("its place", hall.fault(), good.length());
        status[0]++;
    }

    private void act() {
        if (upTo(39) == 0) {
            texts();
            return;
        }
        int kind = upTo(12);
        if (kind == 0) {
            years();
        } else if (kind == 1 || kind == 2) {
            undo();
        } else if (kind == 3) {
            images();
        } else if (plain.monks.isEmpty()) {
            years();
        } else if (kind <= 5) {
            braid();
        } else if (kind == 6) {
            shave();
        } else if (kind == 7) {
            moths();
        } else if (kind == 8) {
            die();
        } else if (!plain.entries.isEmpty()) {
            entryAct(kind);
        }
    }

    private void years() {
        int many = upTo(3) == 0 ? upTo(33) - 1 : upTo(3);
        boolean fine = many >= 1 && many <= 30 && plain.year + many <= 999;
        if (fine) {
            keep();
            plain.manyYears(many);
        }
        same("years(" + many + ")", hall.years(many), fine ? plain.year : refuse());
    }

    private void undo() {
        if (!acts.isEmpty()) {
            plain = acts.remove(acts.size() - 1);
            same("undo()", hall.undo(), acts.size());
        } else {
            same("undo()", hall.undo(), -1);
        }
    }

    private static List<PlainHall> copies(List<PlainHall> halls) {
        List<PlainHall> other = new ArrayList<>();
        for (PlainHall one : halls) {
            other.add(one.copy());
        }
        return other;
    }

    private void images() {
        if (upTo(1) == 0) {
            hall.image();
            imagePlain = plain.copy();
            imageActs = copies(acts);
            imageSeen = new ArrayList<>(seen);
            imageStatus = status.clone();
            return;
        }
        same("restore()", hall.restore() ? 1 : 0, imagePlain == null ? 0 : 1);
        if (imagePlain != null) {
            plain = imagePlain.copy();
            acts = copies(imageActs);
            seen = new ArrayList<>(imageSeen);
            status = imageStatus.clone();
        }
    }

    private int someMonk() {
        return upTo(plain.monks.size() - 1);
    }

    private int someEntry() {
        return upTo(plain.entries.size() - 1);
    }

    private void braid() {
        int monk = someMonk();
        int kind = upTo(9) == 0 ? upTo(6) - 1 : upTo(3);
        int about = upTo(9) == 0 ? upTo(10) - 1 : upTo(2);
        int value = upTo(9) == 0 ? upTo(1200) - 100 : upTo(5);
        boolean fine = plain.entries.size() < 24 && !plain.monks.get(monk).dead && kind >= 0 && kind <= 3
            && about >= 0 && about <= 7 && value >= 0 && value <= 999;
        int due = -1;
        if (fine) {
            keep();
            due = plain.addEntry(kind, monk, 0, about, value);
        } else {
            refuse();
        }
        same("braid", hall.braid(monk, kind, about, value), due);
    }

    private void shave() {
        int monk = someMonk();
        int length = upTo(plain.monks.get(monk).length + 2) - 1;
        int due = -1;
        if (length >= 0 && length < plain.monks.get(monk).length) {
            keep();
            due = plain.shave(monk, length);
        } else {
            refuse();
        }
        same("shave", hall.shave(monk, length), due);
    }

    private void moths() {
        int monk = someMonk();
        int from = upTo(20) - 1;
        int to = upTo(9) == 0 ? upTo(70) : from + upTo(3) - (upTo(5) == 0 ? 1 : 0);
        int due = -1;
        if (from >= 0 && to >= from && to <= 60) {
            keep();
            due = plain.moths(monk, from, to);
        } else {
            refuse();
        }
        same("moths", hall.moths(monk, from, to), due);
    }

    private void die() {
        int monk = someMonk();
        boolean fine = !plain.monks.get(monk).dead;
        if (fine) {
            keep();
            plain.monks.get(monk).dead = true;
        } else {
            refuse();
        }
        same("die", hall.die(monk) ? 1 : 0, fine ? 1 : 0);
    }

    private void entryAct(int kind) {
        int number = someEntry();
        PlainHall.Entry entry = plain.entries.get(number);
        if (kind <= 10) {
            int monk = someMonk();
            int due = -1;
            if (plain.entries.size() < 24 && !entry.gone && !plain.monks.get(monk).dead && !plain.holds(monk, entry.record)) {
                keep();
                due = plain.addCopy(number, monk, 0);
            } else {
                refuse();
            }
            same("copy", hall.copy(number, monk), due);
            return;
        }
        boolean fine = !entry.gone && !entry.knot && !plain.monks.get(entry.monk).dead;
        if (fine) {
            keep();
            entry.knot = kind == 11;
            entry.gone = kind == 12;
        } else {
            refuse();
        }
        same("knot or comb", (kind == 11 ? hall.knot(number) : hall.comb(number)) ? 1 : 0, fine ? 1 : 0);
    }

    private void ask() {
        int kind = upTo(9);
        if (kind == 0) {
            forget();
        } else if (kind <= 2 && !plain.entries.isEmpty()) {
            see();
        } else if (kind <= 4) {
            askAll();
        } else if (kind <= 6 && !plain.monks.isEmpty()) {
            askMonk(someMonk());
        } else if (!plain.entries.isEmpty()) {
            askEntry(someEntry());
        }
    }

    private void forget() {
        int due = seen.size() - 1;
        if (due >= 0) {
            seen.remove(due);
        }
        same("forget()", hall.forget(), due);
    }

    private void see() {
        int entry = someEntry();
        boolean there = upTo(2) > 0 != plain.entries.get(entry).gone;
        if (seen.size() < 8) {
            seen.add(new int[] {entry, there ? 1 : 0});
            same("see", hall.see(entry, there), seen.size());
        } else {
            status[2]++;
            same("see", hall.see(entry, there), -1);
        }
    }

    private void askAll() {
        for (int about = 0; about < 4; about++) {
            same("law", hall.law(about), plain.law(about));
            same("owed", hall.owed(about), plain.owed(about));
            same("believed", hall.believed(about), plain.believed(about));
            int kind = upTo(3);
            same("oldest", hall.oldest(kind, about), plain.oldest(kind, about));
        }
        same("rivals", hall.rivals(), plain.rivals());
        same("cover", hall.cover(), plain.cover());
        same("alone", hall.alone(), plain.alone());
        int many = upTo(6);
        same("barbers", hall.barbers(many), plain.barbers(many));
        int years = upTo(60);
        same("doomed", hall.doomed(years), plain.doomed(years));
        same("safest", hall.safest(), plain.safest());
        int what = upTo(1);
        same("game", hall.game(what), plain.game(what));
        int seed = random.nextInt();
        int n = upTo(40);
        int told = upTo(2);
        same("season", hall.season(seed, n, told), plain.season(seed, n, told));
    }

    private void askMonk(int monk) {
        same("shortest", hall.shortest(monk), plain.shortest(monk));
        int wide = upTo(9);
        int what = upTo(1);
        same("amnesty", hall.amnesty(monk, wide, what), plain.amnesty(monk, wide, what));
        int day = upTo(7) - 1;
        same("week", hall.week(monk, day), plain.week(monk, day));
        same("heir", hall.heir(monk), plain.heir(monk));
        same("lice", hall.lice(monk), plain.lice(monk));
        same("ate", hall.ate(monk, what), plain.ate(monk, seen, what));
    }

    private void askEntry(int number) {
        PlainHall.Entry entry = plain.entries.get(number);
        same("until", hall.until(number), plain.until(number));
        same("holders", hall.holders(number), plain.holders(entry.record));
        int monk = someMonk();
        PlainHall.Monk holder = plain.monks.get(entry.monk);
        boolean may = !entry.gone && (monk == entry.monk || holder.kind != 3 && holder.age < plain.grey);
        same("may", hall.may(monk, number) ? 1 : 0, may ? 1 : 0);
    }

    private void compare() {
        int dead = 0;
        int there = 0;
        for (int m = 0; m < plain.monks.size(); m++) {
            PlainHall.Monk monk = plain.monks.get(m);
            dead |= monk.dead ? 1 << m : 0;
            int number = m;
            int own = (int) plain.entries.stream().filter(e -> !e.gone && e.monk == number).count();
            there += own;
            int[] due = {monk.kind, monk.age, monk.length, plain.cap(m), monk.age >= plain.grey ? 1 : 0, own};
            for (int what = 0; what < due.length; what++) {
                same("monk(" + m + ", " + what + ")", hall.monk(m, what), due[what]);
            }
        }
        for (int e = 0; e < plain.entries.size(); e++) {
            PlainHall.Entry entry = plain.entries.get(e);
            int[] due = {entry.kind, entry.monk, entry.year, entry.about, entry.value, entry.dye, entry.knot ? 1 : 0,
                entry.record, entry.gone ? 0 : 1, entry.breadths};
            for (int what = 0; what < due.length; what++) {
                same("entry(" + e + ", " + what + ")", hall.entry(e, what), due[what]);
            }
        }
        int[] due = {plain.monks.size(), plain.entries.size(), plain.knee, plain.grey, plain.daily, plain.year, there,
            plain.records().size(), dead, acts.size(), seen.size(), 0, status[0], status[1], status[2]};
        for (int what = 0; what < due.length; what++) {
            same("count(" + what + ")", hall.count(what), due[what]);
        }
    }
}
