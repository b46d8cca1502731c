import java.lang.reflect.InvocationTargetException;
import java.lang.reflect.Method;
import java.util.Arrays;
import java.util.HashMap;
import java.util.Map;
import java.util.Random;
import java.util.TreeMap;

/**
 * Runs of up to 512 calls, drawn with fixed seeds and led by the state of the model, each call made
 * on a FairCircuit and on a Model: both must answer or throw the same.
 */
public final class ModelTest {
    private static final int RUNS = 3000;
    private static final int CALLS = 512;
    private static final Map<String, Method> REAL = methods(FairCircuit.class);
    private static final Map<String, Method> MODELLED = methods(Model.class);
    private static final Map<String, Integer> SEEN = new TreeMap<>();

    private final Random random;
    private final FairCircuit real = new FairCircuit();
    private final Model model = new Model();
    private final StringBuilder log = new StringBuilder();
    private int calls = 0;
    private boolean wrong = false;
    /** Near fairs on the same days, and rides of little work: much can happen in a day. */
    private final boolean isDense;
    /** Years go by fast. */
    private final boolean isLong;

    private ModelTest(long seed) {
        random = new Random(seed);
        isDense = chance(40);
        isLong = chance(20);
    }

    private static Map<String, Method> methods(Class<?> type) {
        Map<String, Method> map = new HashMap<>();
        for (Method m : type.getDeclaredMethods()) {
            if (java.lang.reflect.Modifier.isPublic(m.getModifiers())) map.put(m.getName(), m);
        }
        return map;
    }

    private static Object answer(Method method, Object on, Object[] args) {
        try {
            return method.invoke(on, args);
        } catch (InvocationTargetException e) {
            return e.getCause().getClass().getName();
        } catch (IllegalAccessException e) {
            throw new AssertionError(e);
        }
    }

    private Object call(String name, Object... args) {
        if (wrong || calls == CALLS) return null;
        calls++;
        Object got = answer(REAL.get(name), real, args);
        Object due = answer(MODELLED.get(name), model, args);
        log.append(name).append(Arrays.toString(args)).append(" = ").append(got).append('\n');
        SEEN.merge(name + (got instanceof String s ? " " + s : ""), 1, Integer::sum);
        if (!got.equals(due)) {
            wrong = true;
            System.out.println(log + "due is " + due);
        }
        return got;
    }

    private int from(int least, int most) { return least + random.nextInt(most - least + 1); }
    private boolean chance(int of100) { return random.nextInt(100) < of100; }

    /** In its range most often, else at an edge or just or far behind it. */
    private int some(int least, int most) {
        if (chance(96)) return chance(8) ? (chance(50) ? least : most) : from(least, most);
        return switch (random.nextInt(4)) {
            case 0 -> least - 1;
            case 1 -> most + 1;
            case 2 -> Integer.MIN_VALUE;
            default -> Integer.MAX_VALUE;
        };
    }
    private int aFair() { return some(0, Math.max(0, model.towns.size() - 1)); }
    private int aRide() { return some(0, Math.max(0, model.machines.size() - 1)); }
    private int aFamily() { return some(0, Math.max(0, model.fams.size() - 1)); }

    private void addFair() {
        char charter = chance(2) ? (char) from(0, 300) : chance(70) ? 'f' : 'm';
        if (isDense) {
            call("fair", 'f', from(0, 3), 9, from(100, 200), some(0, 9));
            return;
        }
        int day = chance(20) ? some(0, 350) : charter == 'm' ? some(-60, -40) : some(0, 40);
        call("fair", charter, day, some(1, chance(60) ? 9 : 2), some(20, 200), some(0, chance(80) ? 9 : 99));
    }
    private void addRide() {
        char kind = chance(2) ? (char) from(0, 300) : (char) from('a', 'e');
        call("ride", aFamily(), kind, some(5, chance(50) ? 60 : 20), some(8, 20), some(0, 50), some(1, 20),
            some(1, chance(50) ? 500 : 30), some(0, 12));
    }
    private void addRoad() {
        call("road", aFair(), aFair(), some(1, chance(50) && !isDense ? 200 : 30), isDense ? 20 : some(8, 20));
    }
    private void addRight() {
        int fair = aFair();
        int ground = fair >= 0 && fair < model.towns.size() ? model.towns.get(fair).ground : 50;
        int from = some(0, ground - 1);
        int feet = from(1, isLong ? 20 : 60);
        call("right", fair, aFamily(), from, chance(95) ? Math.min(ground, from + feet) : some(1, ground));
    }

    private void setUp() {
        for (int i = from(1, 8); i > 0; i--) call("family", chance(50));
        for (int i = from(1, 8); i > 0; i--) addFair();
        for (int i = from(0, 24); i > 0; i--) addRoad();
        for (int i = from(1, 12); i > 0; i--) addRide();
        for (int i = 0; i < model.machines.size(); i++) {
            for (int p = isDense ? 1 : chance(10) ? 7 : from(0, 3); p > 0; p--) {
                call("part", i, some(1, isDense ? 2 : chance(40) ? 20 : 4));
            }
        }
        for (int i = from(0, isLong ? 40 : 10); i > 0; i--) addRight();
        for (int i = 0; i < model.towns.size(); i++) if (chance(80)) call("power", i, some(0, 200));
    }

    private void tellAndAllot() {
        for (int f = 0; f < model.towns.size(); f++) {
            if (chance(20) || model.towns.get(f).allotted && chance(98)) continue;
            if (model.hour() >= model.opens(model.towns.get(f)) && chance(90)) continue;
            for (int n = from(1, 8); n > 0; n--) call("apply", f, aRide());
            if (chance(85)) call("allot", f);
        }
    }

    private void moveRides() {
        for (int r = 0; r < model.machines.size(); r++) {
            Model.Machine m = model.machines.get(r);
            if (model.busy(r) > 0 || chance(20)) continue;
            if (model.hasGround(r) && m.up < m.parts.size()) {
                call("up", r);
            } else if (m.up > 0) {
                if (chance(isDense ? 50 : 25)) call("down", r);
            } else {
                int to = from(-1, model.towns.size() - 1);
                for (int f = 0; f < model.towns.size(); f++) {
                    if (model.foot(model.towns.get(f), r) >= 0 && chance(60)) to = f;
                }
                call("go", r, to);
            }
        }
    }

    private void openFairs() {
        for (int f = 0; f < model.towns.size(); f++) {
            if (!model.isOpen(f)) continue;
            for (int r = 0; r < model.machines.size(); r++) {
                if (model.machines.get(r).at != f) continue;
                char keeps = model.keeps(r);
                if (isDense && (keeps == 't' || keeps == 'd')) {
                    call("test", r);
                    call("defect", r, false);
                }
                if (keeps == 't' && chance(90)) call("test", r);
                if (model.keeps(r) == 'd' && chance(50)) call("defect", r, false);
                if (model.keeps(r) == 'c' && chance(90)) call("check", r);
                if (model.keeps(r) == 'w' && chance(50)) call("wind", from(0, 3));
                if (chance(20)) call("keeps", r);
            }
            if (chance(isDense && model.today() == model.towns.get(f).crowdOn ? 5 : 60)) call("crowd", f, some(1, chance(50) ? 2000 : 60), some(1, chance(50) ? 99 : 30));
        }
    }

    /** A ride runs at one fair and is brought to the next one at once, often on the same day. */
    private void hurry() {
        for (int r = 0; r < model.machines.size(); r++) {
            Model.Machine m = model.machines.get(r);
            int at = m.at;
            if (m.up == 0 || model.keeps(r) != '-' || !model.isOpen(at)) continue;
            call("crowd", at, some(1, 2000), some(20, 99));
            call("down", r);
            for (int f = 0; f < model.towns.size(); f++) {
                if (f == at || model.foot(model.towns.get(f), r) < 0) continue;
                if (model.busy(r) > 0) call("pass", model.busy(r));
                call("go", r, f);
                if (model.busy(r) > 0) call("pass", model.busy(r));
                call("up", r);
                if (model.busy(r) > 0) call("pass", model.busy(r));
                call("crowd", f, some(1, 2000), some(20, 99));
                call("keeps", r);
                break;
            }
            return;
        }
    }

    private void letTimePass() {
        int hours = switch (random.nextInt(8)) {
            case 0 -> isLong ? 8760 : 24;
            case 1 -> some(1, 24);
            case 2 -> chance(isLong ? 90 : 20) ? 8760 : chance(30) ? 8760 - model.hour() : 8;
            case 3 -> nextOpening();
            default -> isLong && chance(50) ? 8760 : nextFree();
        };
        call("pass", hours);
    }
    private int nextFree() {
        long next = Long.MAX_VALUE;
        for (Model.Machine m : model.machines) if (m.freeAt > model.now) next = Math.min(next, m.freeAt);
        return next == Long.MAX_VALUE ? some(1, 12) : (int) (next - model.now);
    }
    private int nextOpening() {
        int next = 8760;
        for (Model.Town t : model.towns) {
            if (model.opens(t) > model.hour()) next = Math.min(next, model.opens(t) - model.hour());
        }
        return Math.max(1, next - (chance(30) ? 1 : 0));
    }

    private void ask() {
        int f = aFair();
        int r = aRide();
        int ground = f >= 0 && f < model.towns.size() ? model.towns.get(f).ground : 50;
        switch (random.nextInt(24)) {
            case 0 -> call("money", aFamily());
            case 1 -> call("start", f);
            case 2 -> call("isOpen", f);
            case 3 -> call("way", f, aFair(), some(8, 20));
            case 4 -> call("hour");
            case 5 -> call("year");
            case 6 -> call("partsUp", r);
            case 7 -> call("at", r);
            case 8 -> call("busy", r);
            case 9 -> call("canMake", r, f, aFair());
            case 10 -> call("tour", r, some(0, 3));
            case 11 -> call("holder", f, some(0, ground - 1));
            case 12 -> call("standing", f, some(0, ground - 1));
            case 13 -> call("placeOf", f, r);
            case 14 -> call("keeps", r);
            case 15 -> call("takings", r);
            case 16 -> call("owner", r, some(0, 3));
            case 17 -> call("filledShare", f);
            case 18 -> call("meanTakings");
            case 19 -> call("isTrue");
            case 20 -> call("easter", some(1950, 1999));
            default -> call("checksum");
        }
    }

    private void meddle() {
        int r = aRide();
        switch (random.nextInt(20)) {
            case 0 -> call("family", chance(50));
            case 1 -> call("fine", aFamily(), some(1, 999));
            case 2 -> addFair();
            case 3 -> addRoad();
            case 4 -> call("wind", some(0, 12));
            case 5 -> addRide();
            case 6 -> call("part", r, some(1, 20));
            case 7 -> call("go", r, some(-1, 7));
            case 8 -> call("up", r);
            case 9 -> call("down", r);
            case 10 -> {
                for (int i = isLong ? 8 : 1; i > 0; i--) addRight();
            }
            case 11 -> call("apply", aFair(), r);
            case 12 -> call("allot", aFair());
            case 13 -> call("test", r);
            case 14 -> call("check", r);
            case 15 -> call("defect", r, chance(50));
            case 16 -> call("power", aFair(), some(0, 500));
            case 17 -> call("crowd", aFair(), some(1, 2000), some(1, 99));
            case 18 -> { if (chance(25)) call("dies", aFamily(), aFamily()); }
            default -> call("sell", r, aFamily(), some(0, 9999));
        }
    }

    private boolean run() {
        if (chance(90)) setUp();
        while (calls < CALLS && !wrong) {
            int before = calls;
            switch (random.nextInt(12)) {
                case 0 -> meddle();
                case 1 -> tellAndAllot();
                case 2, 3, 4 -> moveRides();
                case 5, 6 -> {
                    openFairs();
                    if (isDense) hurry();
                }
                case 7, 8 -> ask();
                case 9 -> { if (chance(30)) meddle(); }
                default -> letTimePass();
            }
            for (int i = calls - before; i > 0 && chance(40); i--) ask();
            if (calls == before) ask();
        }
        return !wrong;
    }

    public static void main(String[] args) {
        int failed = 0;
        int leftOut = 0;
        int twice = 0;
        int full = 0;
        for (int seed = 0; seed < RUNS && failed < 3; seed++) {
            ModelTest test = new ModelTest(seed);
            if (!test.run()) {
                failed++;
                System.out.println("seed " + seed + " differs from the model");
            }
            leftOut += test.model.leftOut;
            twice += test.model.twiceInADay;
            full += test.model.shortOfRoom;
        }
        if (args.length > 1) System.out.println(SEEN);
        System.out.println(RUNS + " runs; left out for power " + leftOut + ", full " + full + ", twice in a day " + twice);
        // Runs that never come so deep would show nothing.
        if (leftOut < 100 || full < 100 || twice < 10) {
            failed++;
            System.out.println("the runs do not come deep enough");
        }
        if (failed > 0) System.exit(1);
    }
}
