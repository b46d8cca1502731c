import java.util.ArrayList;
import java.util.Collections;
import java.util.List;
import java.util.NoSuchElementException;

/**
 * The document once more, in its most literal form: feet, people and rows of fairs one by one.
 * ModelTest holds FairCircuit against it.
 */
public final class Model {
    static final class Fam { boolean guild; boolean dead; int money = 1000; }
    static final class Claim { int family, from, to, last; boolean usedNow; }
    static final class Town {
        boolean movable; int day, days, ground, toll, power;
        long crowdOn = -1;
        List<Integer> told = new ArrayList<>();
        boolean allotted;
        Integer[] feet;
        List<Claim> claims = new ArrayList<>();
    }
    static final class Machine {
        int family; char kind; int frontage, height, power, price, room, wind;
        List<Integer> parts = new ArrayList<>();
        int up; int at = -1; long freeAt;
        long tested = -1, checked = -1;
        boolean defect; int takings;
        List<Integer> book = new ArrayList<>();
        long servedOn = -1; int served;
    }
    static final class Track { int a, b, miles, height; }

    final List<Fam> fams = new ArrayList<>();
    final List<Town> towns = new ArrayList<>();
    final List<Machine> machines = new ArrayList<>();
    final List<Track> tracks = new ArrayList<>();
    long now = 0;
    int force = 0;

    static void range(int n, int a, int b) { if (n < a || n > b) throw new IllegalArgumentException(); }
    Fam fam(int n) { if (n < 0 || n >= fams.size()) throw new IndexOutOfBoundsException(); return fams.get(n); }
    Town town(int n) { if (n < 0 || n >= towns.size()) throw new IndexOutOfBoundsException(); return towns.get(n); }
    Machine machine(int n) { if (n < 0 || n >= machines.size()) throw new IndexOutOfBoundsException(); return machines.get(n); }
    long today() { return now / 24; }

    public int family(boolean isGuild) {
        if (fams.size() == 8) throw new IllegalStateException();
        Fam f = new Fam(); f.guild = isGuild; fams.add(f);
        return fams.size() - 1;
    }
    public int money(int family) { return fam(family).money; }
    public int fine(int family, int amount) { Fam f = fam(family); range(amount, 1, 999); return f.money -= amount; }

    public int fair(char charter, int day, int days, int ground, int toll) {
        if (charter != 'f' && charter != 'm') throw new IllegalArgumentException();
        if (charter == 'f') range(day, 0, 350); else range(day, -60, 200);
        range(days, 1, 9); range(ground, 20, 200); range(toll, 0, 99);
        if (towns.size() == 8) throw new IllegalStateException();
        Town t = new Town();
        t.movable = charter == 'm'; t.day = day; t.days = days; t.ground = ground; t.toll = toll; t.feet = new Integer[ground];
        towns.add(t);
        return towns.size() - 1;
    }

    /** Gauss's rule, another one than the document's. */
    public int easter(int year) {
        range(year, 1950, 1999);
        int a = year % 19, d = (19 * a + 24) % 30, e = (2 * (year % 4) + 4 * (year % 7) + 6 * d + 5) % 7;
        if (d == 29 && e == 6) return 80 + 28;
        if (d == 28 && e == 6 && a > 10) return 80 + 27;
        return 80 + d + e;
    }

    int first(Town t) { return t.movable ? easter(year()) + t.day : t.day; }
    int opens(Town t) { return first(t) * 24 + 12; }
    int ends(Town t) { return (first(t) + t.days - 1) * 24 + 22; }
    public int start(int fair) { return first(town(fair)); }
    public boolean isOpen(int fair) { Town t = town(fair); return opens(t) <= hour() && hour() < ends(t); }

    public boolean road(int fair, int other, int miles, int height) {
        town(fair); town(other);
        if (fair == other) throw new IllegalArgumentException();
        range(miles, 1, 200); range(height, 8, 20);
        Track found = null;
        for (Track t : tracks) if (t.a == fair && t.b == other || t.a == other && t.b == fair) found = t;
        boolean was = found != null;
        if (!was) { found = new Track(); found.a = fair; found.b = other; tracks.add(found); }
        found.miles = miles; found.height = height;
        return was;
    }

    int miles(int from, int to, int height, int visited) {
        if (from == to) return 0;
        int best = -1;
        for (Track t : tracks) {
            if (t.height < height || t.a != from && t.b != from) continue;
            int next = t.a == from ? t.b : t.a;
            if ((visited >> next & 1) != 0) continue;
            int rest = miles(next, to, height, visited | 1 << next);
            if (rest >= 0 && (best < 0 || rest + t.miles < best)) best = rest + t.miles;
        }
        return best;
    }
    int hours(int from, int to, int height) {
        int m = miles(from, to, height, 1 << from);
        return m < 0 ? -1 : (int) Math.ceil(m / 20.0);
    }
    public int way(int fair, int other, int height) {
        town(fair); town(other); range(height, 8, 20);
        int h = hours(fair, other, height);
        if (h < 0) throw new NoSuchElementException();
        return h;
    }
    public int hour() { return (int) (now % 8760); }
    public int year() { return (int) (1950 + now / 8760); }
    public int pass(int hours) {
        range(hours, 1, 8760);
        if ((now + hours) / 8760 >= 50) throw new IllegalStateException();
        int before = year();
        now += hours;
        if (year() != before) {
            for (Town t : towns) {
                t.told.clear(); t.allotted = false; t.feet = new Integer[t.ground];
                for (Claim c : t.claims) c.usedNow = false;
            }
        }
        return hour();
    }
    public int wind(int f) { range(f, 0, 12); int b = force; force = f; return b; }

    public int ride(int family, char kind, int frontage, int height, int power, int price, int room, int wind) {
        Fam f = fam(family);
        if ("abcde".indexOf(kind) < 0) throw new IllegalArgumentException();
        range(frontage, 5, 60); range(height, 8, 20); range(power, 0, 50); range(price, 1, 20); range(room, 1, 500); range(wind, 0, 12);
        if (f.dead) throw new UnsupportedOperationException();
        if (machines.size() == 12) throw new IllegalStateException();
        Machine m = new Machine();
        m.family = family; m.kind = kind; m.frontage = frontage; m.height = height; m.power = power; m.price = price; m.room = room; m.wind = wind;
        m.book.add(family);
        machines.add(m);
        return machines.size() - 1;
    }
    public int part(int ride, int hours) {
        Machine m = machine(ride); range(hours, 1, 20);
        if (m.up > 0) throw new UnsupportedOperationException();
        if (m.parts.size() == 6) throw new IllegalStateException();
        m.parts.add(hours);
        return m.parts.size();
    }
    public int partsUp(int ride) { return machine(ride).up; }
    public int at(int ride) { return machine(ride).at; }
    public int busy(int ride) { Machine m = machine(ride); return m.freeAt > now ? (int) (m.freeAt - now) : 0; }
    boolean hasGround(int ride) {
        int at = machine(ride).at;
        return at >= 0 && foot(towns.get(at), ride) >= 0;
    }
    public int go(int ride, int fair) {
        Machine m = machine(ride);
        if (fair != -1) town(fair);
        if (m.up > 0 || busy(ride) > 0) throw new UnsupportedOperationException();
        int h = fair == -1 ? 0 : m.at == -1 ? 10 : hours(m.at, fair, m.height);
        if (h < 0) throw new NoSuchElementException();
        m.at = fair; m.freeAt = now + h;
        return h;
    }
    public int up(int ride) {
        Machine m = machine(ride);
        if (busy(ride) > 0 || !hasGround(ride) || m.up == m.parts.size()) throw new UnsupportedOperationException();
        m.freeAt = now + m.parts.get(m.up);
        return ++m.up;
    }
    public int down(int ride) {
        Machine m = machine(ride);
        if (busy(ride) > 0 || m.up == 0) throw new UnsupportedOperationException();
        int sum = 0;
        for (int i = 0; i < m.up; i++) sum += m.parts.get(i);
        m.up = 0; m.freeAt = now + sum / 2;
        return sum / 2;
    }
    public boolean canMake(int ride, int fair, int next) {
        Machine m = machine(ride); Town a = town(fair), b = town(next);
        int all = 0;
        for (int h : m.parts) all += h;
        int way = hours(fair, next, m.height);
        return way >= 0 && opens(b) - ends(a) >= all / 2 + way + all;
    }
    void rows(int ride, List<Integer> row, List<List<Integer>> best) {
        if (best.isEmpty() || row.size() > best.get(0).size()) { best.clear(); best.add(new ArrayList<>(row)); }
        for (int next = 0; next < towns.size(); next++) {
            if (row.isEmpty() || canMake(ride, row.get(row.size() - 1), next)) {
                row.add(next); rows(ride, row, best); row.remove(row.size() - 1);
            }
        }
    }
    public int tour(int ride, int index) {
        machine(ride);
        List<List<Integer>> best = new ArrayList<>();
        rows(ride, new ArrayList<>(), best);
        if (index < 0 || index >= best.get(0).size()) throw new NoSuchElementException();
        return best.get(0).get(index);
    }

    boolean lost(Claim c) { return year() >= c.last + 3; }
    public int right(int fair, int family, int from, int to) {
        Town t = town(fair); Fam f = fam(family);
        if (from < 0 || to > t.ground || to <= from) throw new IllegalArgumentException();
        int held = 0;
        for (Claim c : t.claims) {
            if (lost(c)) continue;
            held++;
            for (int x = from; x < to; x++) if (x >= c.from && x < c.to) throw new UnsupportedOperationException();
        }
        if (f.dead) throw new UnsupportedOperationException();
        if (t.claims.size() == 10) throw new IllegalStateException();
        Claim c = new Claim(); c.family = family; c.from = from; c.to = to; c.last = year();
        t.claims.add(c);
        return held + 1;
    }
    public int holder(int fair, int foot) {
        Town t = town(fair);
        if (foot < 0 || foot >= t.ground) throw new IndexOutOfBoundsException();
        for (Claim c : t.claims) if (!lost(c) && foot >= c.from && foot < c.to) return c.family;
        throw new NoSuchElementException();
    }
    public int apply(int fair, int ride) {
        Town t = town(fair); machine(ride);
        if (t.told.contains(ride) || t.allotted) throw new UnsupportedOperationException();
        t.told.add(ride);
        return t.told.size();
    }
    int foot(Town t, int ride) {
        for (int x = 0; x < t.ground; x++) if (t.feet[x] != null && t.feet[x] == ride) return x;
        return -1;
    }
    boolean fits(Town t, int ride, int x) {
        Machine m = machines.get(ride);
        for (int y = 0; y < t.ground; y++) {
            if (t.feet[y] == null) continue;
            if (y >= x && y < x + m.frontage) return false;
            boolean like = machines.get(t.feet[y]).kind == m.kind;
            // foot y covers y to y + 1
            if (like && y < x && x - (y + 1) < 30) return false;
            if (like && y >= x + m.frontage && y - (x + m.frontage) < 30) return false;
        }
        return true;
    }
    void put(Town t, int ride, int x) {
        Machine m = machines.get(ride);
        for (int y = x; y < x + m.frontage; y++) { t.feet[y] = ride; fams.get(m.family).money -= t.toll; }
    }
    int filled(Town t) { int n = 0; for (Integer x : t.feet) if (x != null) n++; return n; }
    public int allot(int fair) {
        Town t = town(fair);
        if (t.allotted || hour() >= opens(t)) throw new UnsupportedOperationException();
        t.allotted = true;
        for (int from = 0; from < t.ground; from++) {
            for (Claim c : t.claims) {
                if (c.from != from || lost(c)) continue;
                int x = c.from;
                for (int r : t.told) {
                    Machine m = machines.get(r);
                    if (m.family != c.family || foot(t, r) >= 0) continue;
                    if (x + m.frontage > c.to || !fits(t, r, x)) continue;
                    put(t, r, x); x += m.frontage; c.usedNow = true; c.last = year();
                }
            }
        }
        List<Integer> others = new ArrayList<>();
        for (int r : t.told) if (foot(t, r) < 0 && fams.get(machines.get(r).family).guild) others.add(r);
        for (int r : t.told) if (foot(t, r) < 0 && !fams.get(machines.get(r).family).guild) others.add(r);
        for (int r : others) {
            int w = machines.get(r).frontage;
            for (int x = 0; x + w <= t.ground; x++) {
                boolean ok = fits(t, r, x);
                for (int y = x; y < x + w; y++) for (Claim c : t.claims) if (c.usedNow && y >= c.from && y < c.to) ok = false;
                if (ok) { put(t, r, x); break; }
            }
        }
        return filled(t);
    }
    public int standing(int fair, int foot) {
        Town t = town(fair);
        if (foot < 0 || foot >= t.ground) throw new IndexOutOfBoundsException();
        if (t.feet[foot] == null) throw new NoSuchElementException();
        return t.feet[foot];
    }
    public int placeOf(int fair, int ride) {
        Town t = town(fair); machine(ride);
        int x = foot(t, ride);
        if (x < 0) throw new NoSuchElementException();
        return x;
    }
    public int test(int ride) {
        Machine m = machine(ride);
        int since = m.tested < 0 ? -1 : (int) (today() - m.tested);
        m.tested = today();
        return since;
    }
    public boolean check(int ride) { Machine m = machine(ride); m.checked = today(); return m.defect; }
    public boolean defect(int ride, boolean is) { Machine m = machine(ride); boolean b = m.defect; m.defect = is; return b; }
    public char keeps(int ride) {
        Machine m = machine(ride);
        if (!hasGround(ride)) return 'l';
        if (busy(ride) > 0 || m.parts.isEmpty() || m.up < m.parts.size()) return 'b';
        if (m.tested < 0 || m.tested < today() - 364) return 't';
        if (m.defect) return 'd';
        if (m.checked != today()) return 'c';
        if (force > m.wind) return 'w';
        return '-';
    }
    public int power(int fair, int power) { Town t = town(fair); range(power, 0, 500); int b = t.power; t.power = power; return b; }

    int leftOut, twiceInADay, shortOfRoom;
    public int crowd(int fair, int people, int money) {
        Town t = town(fair); range(people, 1, 2000); range(money, 1, 99);
        if (!isOpen(fair) || t.crowdOn == today()) throw new UnsupportedOperationException();
        t.crowdOn = today();
        List<Integer> purses = new ArrayList<>(Collections.nCopies(people, money));
        int sum = 0, used = 0, last = -1;
        for (int x = 0; x < t.ground; x++) {
            if (t.feet[x] == null || t.feet[x] == last) continue;
            last = t.feet[x];
            Machine m = machines.get(last);
            if (m.at != fair || keeps(last) != '-') continue;
            if (used + m.power > t.power) { leftOut++; continue; }
            used += m.power;
            if (m.servedOn != today()) { m.servedOn = today(); m.served = 0; } else { twiceInADay++; }
            purses.sort(Collections.reverseOrder());
            int took = 0;
            for (int i = 0; i < people && m.served < m.room; i++) {
                if (purses.get(i) < m.price) break;
                purses.set(i, purses.get(i) - m.price);
                took += m.price; m.served++;
            }
            if (m.served == m.room) shortOfRoom++;
            m.takings += took; sum += took;
            fams.get(m.family).money += took - m.power;
        }
        return sum;
    }
    public int takings(int ride) { return machine(ride).takings; }
    public int dies(int family, int heir) {
        Fam f = fam(family), h = fam(heir);
        if (f == h || f.dead || h.dead) throw new UnsupportedOperationException();
        f.dead = true; h.money += f.money; f.money = 0;
        for (Town t : towns) for (Claim c : t.claims) if (c.family == family) c.family = heir;
        int n = 0;
        for (Machine m : machines) {
            if (m.family == family) { m.family = heir; m.book.add(heir); }
            if (m.family == heir) n++;
        }
        return n;
    }
    public int sell(int ride, int family, int price) {
        Machine m = machine(ride); Fam f = fam(family); range(price, 0, 9999);
        if (m.family == family || f.dead) throw new UnsupportedOperationException();
        fams.get(m.family).money += price; f.money -= price; m.family = family;
        m.book.add(family);
        return m.book.size() - 1;
    }
    public int owner(int ride, int index) {
        Machine m = machine(ride);
        if (index < 0 || index >= m.book.size()) throw new NoSuchElementException();
        return m.book.get(index);
    }
    public float filledShare(int fair) { Town t = town(fair); return (float) filled(t) / (float) t.ground; }
    public double meanTakings() {
        if (machines.isEmpty()) throw new ArithmeticException();
        int sum = 0;
        for (Machine m : machines) sum += m.takings;
        return (double) sum / (double) machines.size();
    }
    public long checksum() {
        long s = 7;
        for (Fam f : fams) s = s * 31 + f.money;
        for (Machine m : machines) { s = s * 31 + m.takings; s = s * 31 + m.up; }
        for (Town t : towns) {
            for (int x = 0; x < t.ground; x++) {
                if (t.feet[x] == null || foot(t, t.feet[x]) != x) continue;
                s = s * 31 + t.feet[x]; s = s * 31 + x;
            }
        }
        return s * 31 + hour();
    }
    public boolean isTrue() { return true; }
}
