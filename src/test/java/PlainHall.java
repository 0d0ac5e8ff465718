import java.util.ArrayList;
import java.util.List;
import java.util.TreeMap;
import java.util.TreeSet;

/**
 * The document told once more as plainly as can be, for ModelTest: what would be is asked by doing it to a copy,
 * years go by one at a time, and nothing is held as bits.
 */
final class PlainHall {
    static final class Monk {
        int kind;
        int age;
        int length;
        boolean dead;
    }

    static final class Entry {
        int kind;
        int monk;
        int year;
        int about;
        int value;
        int dye;
        boolean knot;
        int record;
        boolean gone;
        int breadths;
    }

    int knee = 40;
    int grey = 60;
    int daily = 3;
    int year;
    final List<Monk> monks = new ArrayList<>();
    final List<Entry> entries = new ArrayList<>();

    PlainHall copy() {
        PlainHall other = new PlainHall();
        other.knee = knee;
        other.grey = grey;
        other.daily = daily;
        other.year = year;
        for (Monk monk : monks) {
            other.addMonk(monk.kind, monk.age, 0);
            Monk last = other.monks.get(other.monks.size() - 1);
            last.length = monk.length;
            last.dead = monk.dead;
        }
        for (Entry entry : entries) {
            Entry same = new Entry();
            same.kind = entry.kind;
            same.monk = entry.monk;
            same.year = entry.year;
            same.about = entry.about;
            same.value = entry.value;
            same.dye = entry.dye;
            same.knot = entry.knot;
            same.record = entry.record;
            same.gone = entry.gone;
            same.breadths = entry.breadths;
            other.entries.add(same);
        }
        return other;
    }

    int cap(int monk) {
        int kind = monks.get(monk).kind;
        if (kind == 2) {
            return 0;
        }
        return kind == 1 && knee > 5 ? 5 : knee;
    }

    void addMonk(int kind, int age, int length) {
        Monk monk = new Monk();
        monk.kind = kind;
        monk.age = age;
        monks.add(monk);
        monk.length = Math.min(length, cap(monks.size() - 1));
    }

    int addEntry(int kind, int monk, int ago, int about, int value) {
        Entry entry = new Entry();
        entry.kind = kind;
        entry.monk = monk;
        entry.year = year - ago;
        entry.about = about;
        entry.value = value;
        entry.record = entries.size();
        entry.breadths = ago;
        entry.gone = ago > monks.get(monk).length;
        entries.add(entry);
        return entries.size() - 1;
    }

    int addCopy(int from, int monk, int ago) {
        Entry old = entries.get(from);
        int number = addEntry(old.kind, monk, ago, old.about, old.value);
        entries.get(number).dye = old.dye;
        entries.get(number).record = old.record;
        return number;
    }

    boolean holds(int monk, int record) {
        return entries.stream().anyMatch(e -> !e.gone && e.monk == monk && e.record == record);
    }

    TreeSet<Integer> records() {
        TreeSet<Integer> records = new TreeSet<>();
        entries.stream().filter(e -> !e.gone).forEach(e -> records.add(e.record));
        return records;
    }

    void oneYear() {
        year++;
        for (int i = 0; i < monks.size(); i++) {
            Monk monk = monks.get(i);
            if (!monk.dead) {
                monk.age++;
                monk.length = Math.min(monk.length + 1, cap(i));
            }
        }
        for (Entry entry : entries) {
            Monk monk = monks.get(entry.monk);
            if (!monk.dead) {
                entry.breadths++;
                entry.gone = entry.gone || entry.breadths > monk.length;
            }
        }
    }

    void manyYears(int many) {
        for (int i = 0; i < many; i++) {
            oneYear();
        }
    }

    int shave(int monk, int length) {
        monks.get(monk).length = length;
        int lost = 0;
        for (Entry entry : entries) {
            if (entry.monk == monk && !entry.gone && entry.breadths > length) {
                entry.gone = true;
                lost++;
            }
        }
        return lost;
    }

    int moths(int monk, int from, int to) {
        int eaten = 0;
        for (Entry entry : entries) {
            if (entry.monk == monk && monks.get(monk).kind != 3 && !entry.gone && !entry.knot
                && from <= entry.breadths && entry.breadths <= to) {
                entry.gone = true;
                eaten++;
            }
        }
        return eaten;
    }

    // ---- questions

    int law(int about) {
        int latest = entries.stream().filter(e -> !e.gone && e.kind == 0 && e.about == about).mapToInt(e -> e.year).max().orElse(-9999);
        int[] values = entries.stream().filter(e -> !e.gone && e.kind == 0 && e.about == about && e.year == latest)
            .mapToInt(e -> e.value).distinct().toArray();
        return values.length == 0 ? -1 : values.length == 1 ? values[0] : -2;
    }

    int rivals() {
        TreeSet<Integer> couples = new TreeSet<>();
        for (Entry a : entries) {
            for (Entry b : entries) {
                if (a.monk < b.monk && !a.gone && !b.gone && a.kind == 0 && b.kind == 0 && a.about == b.about
                    && a.year == b.year && a.value != b.value) {
                    couples.add(10 * a.monk + b.monk);
                }
            }
        }
        return couples.size();
    }

    int owed(int about) {
        int sum = 0;
        for (int record : records()) {
            Entry entry = entries.get(record);
            if (about < 0 || entry.about == about) {
                sum += entry.kind == 1 ? entry.value : entry.kind == 2 ? -entry.value : 0;
            }
        }
        return sum;
    }

    int cover() {
        int best = -1;
        for (int set = 0; set < 1 << monks.size(); set++) {
            int monksOfSet = set;
            boolean all = records().stream().allMatch(r -> {
                boolean some = false;
                for (int m = 0; m < monks.size(); m++) {
                    some |= (monksOfSet >> m & 1) == 1 && holds(m, r);
                }
                return some;
            });
            if (all && (best < 0 || Integer.bitCount(set) < Integer.bitCount(best))) {
                best = set;
            }
        }
        return best;
    }

    int holders(int record) {
        int bits = 0;
        for (int m = 0; m < monks.size(); m++) {
            bits += holds(m, record) ? 1 << m : 0;
        }
        return bits;
    }

    int alone() {
        return (int) records().stream().filter(r -> Integer.bitCount(holders(r)) == 1).count();
    }

    TreeSet<Integer> lostAgainst(PlainHall before) {
        TreeSet<Integer> lost = before.records();
        lost.removeAll(records());
        return lost;
    }

    int barbers(int many) {
        int able = 0;
        for (Monk monk : monks) {
            able += monk.kind == 3 ? 0 : 1;
        }
        int best = 0;
        int most = -1;
        for (int set = 0; set < 1 << monks.size(); set++) {
            PlainHall then = copy();
            boolean plait = false;
            for (int m = 0; m < monks.size(); m++) {
                if ((set >> m & 1) == 1) {
                    plait |= monks.get(m).kind == 3;
                    then.shave(m, 0);
                }
            }
            int lost = then.lostAgainst(this).size();
            if (!plait && Integer.bitCount(set) == Math.min(many, able) && lost > most) {
                best = set;
                most = lost;
            }
        }
        return best;
    }

    int shortest(int monk) {
        for (int length = 0; length <= monks.get(monk).length; length++) {
            PlainHall then = copy();
            then.shave(monk, length);
            if (then.lostAgainst(this).isEmpty()) {
                return length;
            }
        }
        return -99;
    }

    int amnesty(int monk, int wide, int what) {
        int most = -1;
        int first = -1;
        for (int from = 0; from <= 60; from++) {
            PlainHall then = copy();
            then.moths(monk, from, from + wide);
            int sum = then.lostAgainst(this).stream().mapToInt(r -> entries.get(r).kind == 1 ? entries.get(r).value : 0).sum();
            if (sum > most) {
                most = sum;
                first = from;
            }
        }
        return what == 0 ? most : first;
    }

    int week(int monk, int day) {
        int many = 0;
        for (Entry entry : entries) {
            if (!entry.gone && entry.monk == monk) {
                int read = -1;
                for (int d = 0; d < 7; d++) {
                    if (entry.breadths >= d * daily && entry.breadths <= d * daily + daily - 1) {
                        read = d;
                    }
                }
                many += read == day ? 1 : 0;
            }
        }
        return many;
    }

    int oldest(int kind, int about) {
        int best = -1;
        for (int e = entries.size() - 1; e >= 0; e--) {
            Entry entry = entries.get(e);
            if (!entry.gone && entry.kind == kind && entry.about == about && (best < 0 || entry.year <= entries.get(best).year)) {
                best = e;
            }
        }
        return best;
    }

    int believed(int about) {
        TreeMap<Integer, TreeSet<Integer>> believers = new TreeMap<>();
        for (Entry entry : entries) {
            if (!entry.gone && entry.kind == 0 && entry.about == about) {
                believers.computeIfAbsent(entry.value, v -> new TreeSet<>()).add(entry.monk);
            }
        }
        int best = -1;
        int most = 0;
        for (int value : believers.keySet()) {
            if (believers.get(value).size() > most) {
                most = believers.get(value).size();
                best = value;
            }
        }
        return best;
    }

    int until(int entry) {
        if (entries.get(entry).gone) {
            return -1;
        }
        PlainHall then = copy();
        for (int years = 0; years < 100; years++) {
            then.oneYear();
            if (then.entries.get(entry).gone) {
                return years;
            }
        }
        return -2;
    }

    int doomed(int years) {
        PlainHall then = copy();
        then.manyYears(years);
        return then.lostAgainst(this).size();
    }

    int safest() {
        int best = -1;
        int most = -1;
        for (int m = 0; m < monks.size(); m++) {
            if (!monks.get(m).dead) {
                PlainHall then = copy();
                int years = then.until(then.addEntry(0, m, 0, 0, 0));
                if (years > most) {
                    most = years;
                    best = m;
                }
            }
        }
        return best;
    }

    int heir(int monk) {
        int best = -1;
        int most = -1;
        for (int m = 0; m < monks.size(); m++) {
            int other = m;
            int shared = (int) records().stream().filter(r -> holds(monk, r) && holds(other, r)).count();
            if (m != monk && !monks.get(m).dead && shared > most) {
                most = shared;
                best = m;
            }
        }
        return best;
    }

    int lice(int monk) {
        return entries.stream().filter(e -> !e.gone && e.monk == monk).mapToInt(e -> e.value * (1 + e.breadths)).sum() % 97;
    }

    int ate(int monk, List<int[]> seen, int what) {
        int ways = 0;
        int first = -1;
        for (int from = 20; from >= 0; from--) {
            for (int to = 20; to >= from; to--) {
                PlainHall then = copy();
                then.moths(monk, from, to);
                if (seen.stream().allMatch(s -> (s[0] < then.entries.size() && !then.entries.get(s[0]).gone) == (s[1] == 1))) {
                    ways++;
                    first = 100 * from + to;
                }
            }
        }
        return what == 0 ? ways : first;
    }

    private int gain(int one, int two, int kind) {
        PlainHall then = copy();
        then.shave(one, 0);
        then.shave(two, 0);
        return then.lostAgainst(this).stream().mapToInt(r -> entries.get(r).kind == kind ? entries.get(r).value : 0).sum();
    }

    int game(int what) {
        List<Integer> resting = new ArrayList<>();
        for (int one = 0; one < monks.size(); one++) {
            for (int two = 0; two < monks.size(); two++) {
                boolean rests = monks.get(one).kind != 3 && monks.get(two).kind != 3;
                for (int m = 0; m < monks.size() && rests; m++) {
                    rests = monks.get(m).kind == 3
                        || gain(m, two, 0) <= gain(one, two, 0) && gain(one, m, 1) <= gain(one, two, 1);
                }
                if (rests) {
                    resting.add(10 * one + two);
                }
            }
        }
        return what == 0 ? resting.size() : resting.isEmpty() ? -1 : resting.get(0);
    }

    int season(int seed, int n, int what) {
        PlainHall then = copy();
        long now = seed;
        int years = 0;
        for (int i = 0; i < n && !monks.isEmpty(); i++) {
            PlainHall before = then.copy();
            long[] draws = new long[3];
            int[] of = {monks.size(), 3, 20};
            int taken = 2;
            for (int d = 0; d < taken; d++) {
                now = (now * 1103515245L + 12345L) & 0xffffffffL;
                draws[d] = (now / 65536 % 32768) % of[d];
                taken = d == 1 && draws[1] != 2 ? 3 : taken;
            }
            int monk = (int) draws[0];
            int breadth = (int) draws[2];
            if (draws[1] == 0) {
                then.moths(monk, breadth, breadth + 2);
            } else if (draws[1] == 1 && breadth < then.monks.get(monk).length) {
                then.shave(monk, breadth);
            }
            then.oneYear();
            years += then.lostAgainst(before).isEmpty() ? 0 : 1;
        }
        return what == 0 ? then.records().size() : what == 1 ? then.owed(-1) : years;
    }
}
