import java.util.function.IntFunction;
import java.util.function.Supplier;

/** The ranges of all numbers: of families, fairs and rides that are there, and of what is told. */
public final class RangeTest {
    private static final Supplier<FairCircuit> THREE = RangeTest::three;
    private static final Supplier<FairCircuit> TOLD = Checks.world(THREE, x -> {
        for (int i = 0; i < 3; i++) x.apply(i, i);
    });
    private static final Supplier<FairCircuit> THERE = Checks.world(TOLD, x -> {
        for (int i = 0; i < 3; i++) x.allot(i);
        for (int i = 0; i < 3; i++) x.go(i, i);
        x.pass(10);
    });
    private static final Supplier<FairCircuit> BUILT = Checks.world(THERE, x -> {
        for (int i = 0; i < 3; i++) x.up(i);
        x.pass(2);
    });
    private static final Supplier<FairCircuit> OPEN = Checks.world(BUILT, x -> {
        x.pass(12 * 24 + 12 - x.hour());
        for (int i = 0; i < 3; i++) {
            x.test(i);
            x.check(i);
            x.power(i, 10);
        }
    });

    /** Of each thing 0 to 2, and the last number is as alive as the first one. */
    private static FairCircuit three() {
        FairCircuit x = new FairCircuit();
        for (int i = 0; i < 3; i++) x.family(i != 1);
        for (int i = 0; i < 3; i++) x.fair('f', 10 + i, 3 - i, 100, 2);
        for (int i = 0; i < 3; i++) x.ride(i, (char) ('a' + i), 20, 10, 10, 2, 50, 6);
        for (int i = 0; i < 3; i++) x.part(i, 2);
        x.road(0, 1, 41, 12);
        x.road(1, 2, 20, 12);
        return x;
    }

    private static FairCircuit aWeekApart() {
        FairCircuit x = new FairCircuit();
        x.family(true);
        for (int i = 0; i < 3; i++) x.fair('f', 10 + 7 * i, 1, 50, 0);
        for (int i = 0; i < 3; i++) x.ride(0, 'a', 20, 10, 10, 2, 50, 6);
        x.road(0, 1, 41, 12);
        x.road(1, 2, 20, 12);
        return x;
    }

    private static void numbers(String name, Supplier<FairCircuit> world, Cases.Asked call, IntFunction<Object> due) {
        Cases.range(name, 0, 2, world, call, due, Checks.INDEX);
    }

    private static void families() {
        numbers("promise 3, money: family", THREE, (x, n) -> x.money(n), n -> 1000);
        numbers("promise 4, fine: family", THREE, (x, n) -> x.fine(n, 1), n -> 999);
        numbers("promise 15, ride: family", THREE, (x, n) -> x.ride(n, 'a', 20, 10, 10, 2, 50, 6), n -> 3);
        numbers("promise 25, right: family", THREE, (x, n) -> x.right(0, n, 0, 10), n -> 1);
        numbers("promise 38, dies: family", THREE, (x, n) -> x.dies(n, 1), n -> 2);
        numbers("promise 38, dies: heir", THREE, (x, n) -> x.dies(1, n), n -> 2);
        numbers("promise 39, sell: family", THREE, (x, n) -> x.sell(1, n, 5), n -> 1);
    }

    private static void fairs() {
        Supplier<FairCircuit> held = Checks.world(THREE, x -> { for (int i = 0; i < 3; i++) x.right(i, i, 0, 10); });
        numbers("promise 7, start: fair", THREE, (x, n) -> x.start(n), n -> 10 + n);
        numbers("promise 8, isOpen: fair", OPEN, (x, n) -> x.isOpen(n), n -> true);
        numbers("promise 9, road: fair", THREE, (x, n) -> x.road(n, 1, 5, 8), n -> true);
        numbers("promise 9, road: other", THREE, (x, n) -> x.road(1, n, 5, 8), n -> true);
        numbers("promise 10, way: fair", THREE, (x, n) -> x.way(n, 1, 12), n -> n == 0 ? 3 : 1);
        numbers("promise 10, way: other", THREE, (x, n) -> x.way(1, n, 12), n -> n == 0 ? 3 : 1);
        Cases.range("promise 20, go: fair", -1, 2, THREE, (x, n) -> x.go(0, n), n -> n < 0 ? 0 : 10, Checks.INDEX);
        numbers("promise 23, canMake: fair", RangeTest::aWeekApart, (x, n) -> x.canMake(0, n, 1), n -> n == 0);
        numbers("promise 23, canMake: next", RangeTest::aWeekApart, (x, n) -> x.canMake(0, 1, n), n -> n == 2);
        numbers("promise 25, right: fair", THREE, (x, n) -> x.right(n, 0, 0, 10), n -> 1);
        numbers("promise 26, holder: fair", held, (x, n) -> x.holder(n, 0), n -> n);
        numbers("promise 27, apply: fair", THREE, (x, n) -> x.apply(n, 1), n -> 1);
        numbers("promise 28, allot: fair", TOLD, (x, n) -> x.allot(n), n -> 20);
        numbers("promise 29, standing: fair", THERE, (x, n) -> x.standing(n, 0), n -> n);
        numbers("promise 30, placeOf: fair", THERE, (x, n) -> x.placeOf(n, n == 2 ? 2 : 0), n -> 0);
        numbers("promise 35, power: fair", THREE, (x, n) -> x.power(n, 7), n -> 0);
        numbers("promise 36, crowd: fair", OPEN, (x, n) -> x.crowd(n, 5, 9), n -> 10);
        numbers("promise 41, filledShare: fair", THERE, (x, n) -> x.filledShare(n), n -> 0.2f);
    }

    private static void rides() {
        numbers("promise 16, part: ride", THREE, (x, n) -> x.part(n, 5), n -> 2);
        numbers("promise 17, partsUp: ride", BUILT, (x, n) -> x.partsUp(n), n -> 1);
        numbers("promise 18, at: ride", THERE, (x, n) -> x.at(n), n -> n);
        numbers("promise 19, busy: ride", THERE, (x, n) -> x.busy(n), n -> 0);
        numbers("promise 20, go: ride", THREE, (x, n) -> x.go(n, 0), n -> 10);
        numbers("promise 21, up: ride", THERE, (x, n) -> x.up(n), n -> 1);
        numbers("promise 22, down: ride", BUILT, (x, n) -> x.down(n), n -> 1);
        numbers("promise 23, canMake: ride", RangeTest::aWeekApart, (x, n) -> x.canMake(n, 0, 1), n -> true);
        numbers("promise 24, tour: ride", RangeTest::aWeekApart, (x, n) -> x.tour(n, 2), n -> 2);
        numbers("promise 27, apply: ride", THREE, (x, n) -> x.apply(1, n), n -> 1);
        numbers("promise 30, placeOf: ride", THERE, (x, n) -> x.placeOf(n == 2 ? 2 : 0, n), n -> 0);
        numbers("promise 31, test: ride", THREE, (x, n) -> x.test(n), n -> -1);
        numbers("promise 32, check: ride", THREE, (x, n) -> x.check(n), n -> false);
        numbers("promise 33, defect: ride", THREE, (x, n) -> x.defect(n, true), n -> false);
        numbers("promise 34, keeps: ride", OPEN, (x, n) -> x.keeps(n), n -> '-');
        numbers("promise 37, takings: ride", OPEN, (x, n) -> x.takings(n), n -> 0);
        numbers("promise 39, sell: ride", THREE, (x, n) -> x.sell(n, 1, 5), n -> 1);
        numbers("promise 40, owner: ride", THREE, (x, n) -> x.owner(n, 0), n -> n);
    }

    private static void told(String name, int least, int most, Cases.Asked call, IntFunction<Object> due) {
        Cases.range(name, least, most, THREE, call, due, Checks.ARGUMENT);
    }

    private static void toldOfFairs() {
        told("promise 5, fair: fixed day", 0, 350, (x, n) -> x.fair('f', n, 1, 50, 0), n -> 3);
        told("promise 5, fair: days behind Easter", -60, 200, (x, n) -> x.fair('m', n, 1, 50, 0), n -> 3);
        told("promise 5, fair: days", 1, 9, (x, n) -> x.fair('f', 5, n, 50, 0), n -> 3);
        told("promise 5, fair: feet", 20, 200, (x, n) -> x.fair('f', 5, 1, n, 0), n -> 3);
        told("promise 5, fair: toll", 0, 99, (x, n) -> x.fair('f', 5, 1, 50, n), n -> 3);
        told("promise 5, fair: a movable one's days", 1, 9, (x, n) -> x.fair('m', 5, n, 50, 0), n -> 3);
        told("promise 5, fair: a movable one's feet", 20, 200, (x, n) -> x.fair('m', 5, 1, n, 0), n -> 3);
        told("promise 5, fair: a movable one's toll", 0, 99, (x, n) -> x.fair('m', 5, 1, 50, n), n -> 3);
        for (char charter : new char[] {'f', 'm'}) {
            Cases.answers("promise 5, fair: charter " + charter + " is taken", THREE, x -> x.fair(charter, 5, 1, 50, 0), 3);
        }
        for (char charter : new char[] {'e', 'g', 'l', 'n', 'F', 'M', (char) 0, (char) 0xffff}) {
            Cases.refuses("promise 5, fair: charter " + (int) charter + " is none", THREE,
                x -> x.fair(charter, 5, 1, 50, 0), Checks.ARGUMENT);
        }
        told("promise 9, road: miles", 1, 200, (x, n) -> x.road(0, 2, n, 8), n -> false);
        told("promise 9, road: height", 8, 20, (x, n) -> x.road(0, 2, 5, n), n -> false);
        told("promise 10, way: height, to the same fair", 8, 20, (x, n) -> x.way(2, 2, n), n -> 0);
        Cases.range("promise 10, way: height", 8, 20, Checks.world(THREE, x -> x.road(0, 2, 81, 20)),
            (x, n) -> x.way(0, 2, n), n -> n == 8 ? 4 : 5, Checks.ARGUMENT);
        told("promise 35, power: power", 0, 500, (x, n) -> x.power(0, n), n -> 0);
    }

    private static void toldOfRides() {
        told("promise 15, ride: frontage", 5, 60, (x, n) -> x.ride(0, 'a', n, 10, 10, 2, 50, 6), n -> 3);
        told("promise 15, ride: height", 8, 20, (x, n) -> x.ride(0, 'a', 20, n, 10, 2, 50, 6), n -> 3);
        told("promise 15, ride: power", 0, 50, (x, n) -> x.ride(0, 'a', 20, 10, n, 2, 50, 6), n -> 3);
        told("promise 15, ride: price", 1, 20, (x, n) -> x.ride(0, 'a', 20, 10, 10, n, 50, 6), n -> 3);
        told("promise 15, ride: room", 1, 500, (x, n) -> x.ride(0, 'a', 20, 10, 10, 2, n, 6), n -> 3);
        told("promise 15, ride: wind", 0, 12, (x, n) -> x.ride(0, 'a', 20, 10, 10, 2, 50, n), n -> 3);
        for (char kind = 'a'; kind <= 'e'; kind++) {
            char taken = kind;
            Cases.answers("promise 15, ride: kind " + kind + " is taken", THREE, x -> x.ride(0, taken, 20, 10, 10, 2, 50, 6), 3);
        }
        for (char kind : new char[] {'a' - 1, 'f', 'A', 'E', (char) 0, (char) 0xffff}) {
            Cases.refuses("promise 15, ride: kind " + (int) kind + " is none", THREE,
                x -> x.ride(0, kind, 20, 10, 10, 2, 50, 6), Checks.ARGUMENT);
        }
        told("promise 16, part: hours", 1, 20, (x, n) -> x.part(0, n), n -> 2);
        told("promise 39, sell: price", 0, 9999, (x, n) -> x.sell(0, 1, n), n -> 1);
        Supplier<FairCircuit> sold = Checks.world(THREE, x -> { x.sell(0, 1, 5); x.sell(0, 2, 5); });
        Cases.range("promise 40, owner: index", 0, 2, sold, (x, n) -> x.owner(0, n), n -> n, Checks.NO_ELEMENT);
        Cases.range("promise 24, tour: index", 0, 2, RangeTest::aWeekApart, (x, n) -> x.tour(0, n), n -> n, Checks.NO_ELEMENT);
    }

    private static void toldOfTheRest() {
        told("promise 4, fine: amount", 1, 999, (x, n) -> x.fine(0, n), n -> 1000 - n);
        told("promise 6, easter: year", 1950, 1999, (x, n) -> x.easter(n), n -> n == 1950 ? 98 : 93);
        told("promise 13, pass: hours", 1, 8760, (x, n) -> x.pass(n), n -> n % 8760);
        told("promise 14, wind: force", 0, 12, (x, n) -> x.wind(n), n -> 0);
        Cases.range("promise 36, crowd: people", 1, 2000, OPEN, (x, n) -> x.crowd(0, n, 9), n -> n == 1 ? 2 : 100, Checks.ARGUMENT);
        Cases.range("promise 36, crowd: money", 1, 99, OPEN, (x, n) -> x.crowd(0, 5, n), n -> n == 1 ? 0 : 10, Checks.ARGUMENT);
    }

    private static void feet() {
        told("promise 25, right: first foot", 0, 99, (x, n) -> x.right(0, 0, n, 100), n -> 1);
        told("promise 25, right: foot behind the last one", 1, 100, (x, n) -> x.right(0, 0, 0, n), n -> 1);
        told("promise 25, right: from foot 40, the foot behind", 41, 100, (x, n) -> x.right(0, 0, 40, n), n -> 1);
        told("promise 25, right: up to foot 40, the first foot", 0, 39, (x, n) -> x.right(0, 0, n, 40), n -> 1);
        Supplier<FairCircuit> held = Checks.world(THREE, x -> x.right(0, 2, 0, 100));
        Cases.range("promise 26, holder: foot", 0, 99, held, (x, n) -> x.holder(0, n), n -> 2, Checks.INDEX);
        Supplier<FairCircuit> filled = Checks.world(THREE, x -> {
            for (int i = 0; i < 3; i++) x.apply(0, i);
            x.ride(0, 'd', 40, 8, 0, 1, 1, 0);
            x.apply(0, 3);
            x.allot(0);
        });
        Cases.range("promise 29, standing: foot", 0, 99, filled, (x, n) -> x.standing(0, n), n -> n == 0 ? 0 : 1, Checks.INDEX);
        for (int ground : new int[] {20, 200}) {
            Supplier<FairCircuit> other = Checks.world(THREE, x -> x.fair('f', 5, 1, ground, 0));
            Cases.range("promise 25, right: foot behind the last one of " + ground, 1, ground, other,
                (x, n) -> x.right(3, 0, 0, n), n -> 1, Checks.ARGUMENT);
            Cases.range("promise 26, holder: foot of " + ground, 0, ground - 1,
                Checks.world(other, x -> x.right(3, 1, 0, ground)), (x, n) -> x.holder(3, n), n -> 1, Checks.INDEX);
        }
    }

    public static void main(String[] args) {
        families();
        fairs();
        rides();
        toldOfFairs();
        toldOfRides();
        toldOfTheRest();
        feet();
        Checks.end("RangeTest");
    }
}
