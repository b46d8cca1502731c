import java.util.List;
import java.util.function.Consumer;
import java.util.function.Supplier;

/** What the end of a year takes away, and what it leaves. */
public final class YearEndTest {
    /** Ride 0 from foot 0 and ride 3 from foot 20 of fair 0, both up, tested and checked; it had its crowd. */
    private static final Supplier<FairCircuit> OLD = Checks.world(Checks::opened, x -> {
        x.crowd(0, 60, 2);
        x.apply(1, 1);
    });
    private static final Supplier<FairCircuit> LAST_HOUR = Checks.world(OLD, x -> x.pass(8759 - x.hour()));
    private static final Supplier<FairCircuit> NEXT = Checks.world(LAST_HOUR, x -> x.pass(1));

    /** The call answers one thing in the last hour of the year, and another one an hour later. */
    private static void changes(String name, Cases.Call call, Object old, Object due) {
        Cases.gives(name + ", in the last hour", LAST_HOUR, call, old);
        Cases.gives(name + ", as a year begins", NEXT, call, due);
    }

    private static void stays(String name, Cases.Call call, Object due) {
        changes(name, call, due, due);
    }

    private static Supplier<FairCircuit> next(Consumer<FairCircuit> steps) {
        return Checks.world(Checks.world(Checks::opened, steps), x -> x.pass(8760 - x.hour()));
    }

    private static void taken() {
        changes("promise 27, apply: what was told is gone", x -> x.apply(1, 0), 2, 1);
        changes("promise 27, apply: one that was told", x -> x.apply(1, 1), Checks.UNSUPPORTED, 1);
        changes("promise 27, apply: what was allotted is gone", x -> x.apply(0, 1), Checks.UNSUPPORTED, 1);
        changes("promise 28, allot: what was allotted is gone", x -> x.allot(0), Checks.UNSUPPORTED, 0);
        changes("promise 28, allot: what opened was last year's", x -> x.allot(1), Checks.UNSUPPORTED, 0);
        changes("promise 29, standing: the first foot", x -> x.standing(0, 0), 0, Checks.NO_ELEMENT);
        changes("promise 29, standing: the last foot", x -> x.standing(0, 29), 3, Checks.NO_ELEMENT);
        changes("promise 30, placeOf: the ground is gone", x -> x.placeOf(0, 3), 20, Checks.NO_ELEMENT);
        changes("promise 41, filledShare: the ground is gone", x -> x.filledShare(0), 0.3f, 0f);
        changes("promise 34, keeps: the ground is gone", x -> x.keeps(0), 'c', 'l');
        changes("promise 43, checksum: the ground is gone", x -> x.checksum(),
            WholeTest.sum(1050, 1000, 1990, 0, 100, 2, 0, 0, 0, 0, 10, 1, 0, 0, 3, 20, 8759),
            WholeTest.sum(1050, 1000, 1990, 0, 100, 2, 0, 0, 0, 0, 10, 1, 0));
        changes("promise 7, start: a movable one's day", x -> x.start(1), 88, 73);
        changes("promise 11, hour: it begins again", x -> x.hour(), 8759, 0);
        changes("promise 12, year: the next one", x -> x.year(), 1950, 1951);
        Supplier<FairCircuit> nothingUp = next(x -> { x.down(3); x.pass(1); });
        Cases.refuses("promise 21, up: the ground is gone as a year begins", nothingUp, x -> x.up(3), Checks.UNSUPPORTED);
        Supplier<FairCircuit> partlyUp = next(x -> { x.down(0); x.pass(3); x.up(0); });
        Cases.refuses("promise 21, up: the second part, the ground is gone as a year begins", partlyUp, x -> x.up(0), Checks.UNSUPPORTED);
        Cases.answers("promise 17, partsUp: of one partly up, as a year begins", partlyUp, x -> x.partsUp(0), 1);
    }

    private static void left() {
        stays("promise 3, money: it is left", x -> x.money(0), 1050);
        stays("promise 3, money: a debt is left", x -> x.fine(0, 999), 51);
        stays("promise 7, start: a fixed one's day", x -> x.start(0), 10);
        stays("promise 9, road: it is left", x -> x.road(0, 1, 5, 8), true);
        stays("promise 10, way: it is left", x -> x.way(0, 1, 12), 3);
        stays("promise 17, partsUp: what is up is left", x -> x.partsUp(0), 2);
        stays("promise 18, at: it is left where it is", x -> x.at(0), 0);
        stays("promise 18, at: one in winter quarters", x -> x.at(1), -1);
        stays("promise 16, part: one is up still", x -> x.part(0, 1), Checks.UNSUPPORTED);
        stays("promise 16, part: how many there are", x -> x.part(1, 1), 2);
        stays("promise 20, go: a part is up still", x -> x.go(0, -1), Checks.UNSUPPORTED);
        stays("promise 22, down: what is up", x -> x.down(0), 3);
        stays("promise 25, right: those that are not lost", x -> x.right(0, 0, 0, 10), 2);
        stays("promise 26, holder: it is left", x -> x.holder(0, 40), 1);
        stays("promise 33, defect: there was none", x -> x.defect(0, true), false);
        stays("promise 35, power: it is left", x -> x.power(0, 7), 100);
        stays("promise 37, takings: they are left", x -> x.takings(0), 100);
        stays("promise 38, dies: one that died out", x -> x.dies(3, 0), Checks.UNSUPPORTED);
        stays("promise 40, owner: the book is left", x -> x.owner(3, 0), 2);
        stays("promise 42, meanTakings: they are left", x -> x.meanTakings(), 27.5);
        changes("promise 31, test: the test is left", x -> x.test(0), 354, 355);
        Cases.answers("promise 14, wind: it is left as a year begins", next(x -> x.wind(5)), x -> x.wind(0), 5);
        Cases.answers("promise 33, defect: it is left as a year begins", next(x -> x.defect(0, true)), x -> x.check(0), true);
        Cases.answers("promise 2, family: how many, as a year begins", NEXT, x -> x.family(true), 4);
        Cases.answers("promise 5, fair: how many, as a year begins", NEXT, x -> x.fair('f', 1, 1, 50, 0), 2);
        Cases.answers("promise 15, ride: how many, as a year begins", NEXT, x -> x.ride(0, 'a', 5, 8, 0, 1, 1, 0), 4);
        Cases.answers("promise 44, isTrue: as a year begins", NEXT, x -> x.isTrue(), true);
    }

    private static void busyOver() {
        Supplier<FairCircuit> going = Checks.world(LAST_HOUR, x -> x.go(1, 0));
        Cases.answers("promise 19, busy: going, over the end of a year", Checks.world(going, x -> x.pass(1)), x -> x.busy(1), 9);
        Cases.answers("promise 18, at: going, over the end of a year", Checks.world(going, x -> x.pass(1)), x -> x.at(1), 0);
        Supplier<FairCircuit> pulling = Checks.world(LAST_HOUR, x -> x.down(0));
        Cases.answers("promise 19, busy: pulling down, over the end of a year", Checks.world(pulling, x -> x.pass(1)), x -> x.busy(0), 2);
        Supplier<FairCircuit> building = Checks.world(Checks::opened, x -> {
            x.down(0);
            x.pass(8759 - x.hour());
            x.up(0);
        });
        Cases.answers("promise 19, busy: building, over the end of a year", Checks.world(building, x -> x.pass(1)), x -> x.busy(0), 3);
        Cases.answers("promise 19, busy: a whole year later", Checks.world(building, x -> x.pass(8760)), x -> x.busy(0), 0);
        Cases.answers("promise 22, down: without ground this year", Checks.world(building, x -> x.pass(4)), x -> x.down(0), 2);
    }

    private static void anotherYear() {
        Supplier<FairCircuit> again = Checks.world(NEXT, x -> {
            x.apply(0, 1);
            x.apply(0, 2);
            x.apply(0, 3);
            x.apply(0, 0);
        });
        // By their right, 1 and 2 stand from foot 40 to 90; 3 goes first of the others, and 0 is like 1.
        Cases.answers("promise 28, allot: in the next year, told in another order", again,
            x -> List.of(x.allot(0), x.placeOf(0, 1), x.placeOf(0, 2), x.placeOf(0, 3), Checks.answer(() -> x.placeOf(0, 0))),
            List.of(60, 40, 60, 0, "NoSuchElementException"));
        Supplier<FairCircuit> opened = Checks.world(NEXT, x -> {
            x.apply(0, 0);
            x.allot(0);
            x.pass(10 * 24 + 12);
            x.test(0);
            x.check(0);
        });
        Cases.answers("promise 34, keeps: up since last year, on its ground again", opened, x -> x.keeps(0), '-');
        Cases.answers("promise 36, crowd: on the day on which one came last year", opened, x -> x.crowd(0, 60, 2), 100);
        Cases.answers("promise 37, takings: of two years", Checks.world(opened, x -> x.crowd(0, 60, 2)), x -> x.takings(0), 200);
    }

    public static void main(String[] args) {
        taken();
        left();
        busyOver();
        anotherYear();
        Checks.end("YearEndTest");
    }
}
