import java.util.concurrent.Callable;
import java.util.function.Consumer;
import java.util.function.Supplier;

/** What the tests of promises share: checks that count what is wrong, a world, and a look at it. */
final class Checks {
    static final Class<?> INDEX = IndexOutOfBoundsException.class;
    static final Class<?> ARGUMENT = IllegalArgumentException.class;
    static final Class<?> UNSUPPORTED = UnsupportedOperationException.class;
    static final Class<?> STATE = IllegalStateException.class;
    static final Class<?> NO_ELEMENT = java.util.NoSuchElementException.class;

    private static int made = 0;
    private static int wrong = 0;

    private Checks() { }

    static void is(String what, Object got, Object want) {
        made++;
        if (!got.equals(want)) {
            wrong++;
            System.out.println(what + " is " + got + ", due is " + want);
        }
    }

    /** The answer of a call, or the exception's name; whose it is, if it is not the class that throws it. */
    static Object answer(Callable<Object> call) {
        try {
            return call.call();
        } catch (Exception e) {
            StackTraceElement[] trace = e.getStackTrace();
            String thrower = trace.length > 0 ? trace[0].getClassName() : "the machine";
            String name = e.getClass().getSimpleName();
            return thrower.startsWith("FairCircuit") ? name : name + " of " + thrower;
        }
    }

    /** Such a call throws just this exception, and the object is as one on which it was not made. */
    static void refuses(String what, Supplier<FairCircuit> world, Class<?> want, Consumer<FairCircuit> call) {
        FairCircuit tried = world.get();
        Object got = answer(() -> { call.accept(tried); return "nothing thrown"; });
        is(what, got, want.getSimpleName());
        is("the state behind " + what, state(tried), state(world.get()));
    }

    /** Ends the test: with exit code 1 if anything was wrong. */
    static void end(String name) {
        System.out.println(name + ": " + made + " checks, " + wrong + " wrong");
        if (wrong > 0) System.exit(1);
    }

    /** A world made from steps, anew for each check. */
    static Supplier<FairCircuit> world(Supplier<FairCircuit> before, Consumer<FairCircuit> steps) {
        return () -> {
            FairCircuit x = before.get();
            steps.accept(x);
            return x;
        };
    }

    /**
     * Two fairs 41 miles apart, of 10 to 12 and of 10 days ahead of Easter (88 in 1950); four
     * families, the last one dead; four rides, the third without a part and too high for the road.
     */
    static FairCircuit circuit() {
        FairCircuit x = new FairCircuit();
        x.family(true);
        x.family(false);
        x.family(true);
        x.family(false);
        x.fair('f', 10, 3, 100, 2);
        x.fair('m', -10, 2, 80, 0);
        x.road(0, 1, 41, 12);
        x.ride(0, 'a', 20, 10, 10, 2, 50, 6);
        x.ride(1, 'a', 20, 12, 10, 3, 50, 6);
        x.ride(1, 'b', 30, 13, 20, 1, 500, 3);
        x.ride(2, 'c', 10, 8, 0, 1, 10, 12);
        x.part(0, 4);
        x.part(0, 3);
        x.part(1, 5);
        x.part(3, 1);
        x.right(0, 1, 40, 90);
        x.dies(3, 2);
        x.power(0, 100);
        return x;
    }

    /** The circuit in the first hour of fair 0, ride 0 from foot 0, ride 3 from foot 20, both up. */
    static FairCircuit opened() {
        FairCircuit x = circuit();
        x.apply(0, 0);
        x.apply(0, 3);
        x.allot(0);
        x.go(0, 0);
        x.go(3, 0);
        x.pass(10);
        x.up(0);
        x.up(3);
        x.pass(4);
        x.up(0);
        x.pass(10 * 24 + 12 - 14);
        for (int ride = 0; ride < 4; ride += 3) {
            x.test(ride);
            x.check(ride);
        }
        return x;
    }

    /** All that can be asked, and then what calls answer that tell of the rest: the object is spent. */
    static String state(FairCircuit x) {
        StringBuilder s = new StringBuilder();
        s.append(x.year()).append(' ').append(x.hour()).append(' ').append(x.checksum()).append(' ').append(x.isTrue());
        int families = 0;
        int fairs = 0;
        int rides = 0;
        while (!(note(s, "money", x::money, families) instanceof String)) families++;
        while (!(note(s, "start", x::start, fairs) instanceof String)) fairs++;
        while (!(note(s, "at", x::at, rides) instanceof String)) rides++;
        for (int f = 0; f < fairs; f++) stateOfFair(x, s, f);
        for (int r = 0; r < rides; r++) stateOfRide(x, s, r, fairs);
        spend(x, s, families, fairs, rides);
        return s.toString();
    }

    private interface Asked { Object of(int number); }

    private static Object note(StringBuilder s, String what, Asked asked, int number) {
        Object got = answer(() -> asked.of(number));
        s.append('\n').append(what).append(' ').append(number).append(' ').append(got);
        return got;
    }

    private static void stateOfFair(FairCircuit x, StringBuilder s, int fair) {
        note(s, "open", x::isOpen, fair);
        note(s, "share", x::filledShare, fair);
        for (int foot = 4; foot < 100; foot += 9) {
            note(s, "holder", n -> x.holder(fair, n), foot);
            note(s, "standing", n -> x.standing(fair, n), foot);
        }
    }

    private static void stateOfRide(FairCircuit x, StringBuilder s, int ride, int fairs) {
        note(s, "up", x::partsUp, ride);
        note(s, "busy", x::busy, ride);
        note(s, "keeps", x::keeps, ride);
        note(s, "takings", x::takings, ride);
        for (int i = 0; i < 3; i++) {
            note(s, "owner", n -> x.owner(ride, n), i);
            note(s, "tour", n -> x.tour(ride, n), i);
        }
        for (int f = 0; f < Math.min(3, fairs); f++) {
            note(s, "place", n -> x.placeOf(n, ride), f);
            note(s, "make", n -> x.canMake(ride, n, 0), f);
        }
    }

    private static void spend(FairCircuit x, StringBuilder s, int families, int fairs, int rides) {
        note(s, "wind", x::wind, 0);
        for (int r = 0; r < rides; r++) note(s, "test", x::test, r);
        for (int r = 0; r < rides; r++) note(s, "defect", n -> x.defect(n, false), r);
        for (int f = 0; f < fairs; f++) {
            int fair = f;
            note(s, "power", n -> x.power(n, 500), f);
            note(s, "crowd", n -> x.crowd(n, 9, 9), f);
            for (int r = 0; r < Math.min(4, rides); r++) note(s, "apply", n -> x.apply(fair, n), r);
            note(s, "allot", x::allot, f);
            note(s, "right", n -> x.right(n, 0, 95, 96), f);
            note(s, "way", n -> x.way(0, n, 12), f);
            note(s, "road", n -> x.road(n, 1, 1, 8), f);
        }
        for (int r = 0; r < rides; r++) {
            note(s, "up", x::up, r);
            note(s, "down", x::down, r);
            note(s, "go", n -> x.go(n, 0), r);
            note(s, "part", n -> x.part(n, 20), r);
        }
        note(s, "dies", n -> x.dies(0, n), 1);
        note(s, "family", n -> x.family(true), 0);
        note(s, "fair", n -> x.fair('f', n, 1, 20, 0), 0);
        note(s, "ride", n -> x.ride(1, 'a', 5, 8, n, 1, 1, 0), 0);
        for (int f = 0; f < families; f++) note(s, "money", x::money, f);
        s.append('\n').append(x.checksum());
    }
}
