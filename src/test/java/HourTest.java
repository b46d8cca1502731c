import java.util.function.Consumer;
import java.util.function.Supplier;

/** Where stretches of time begin and end: years, fairs, busy hours, days of tests, years of rights. */
public final class HourTest {
    private static final Supplier<FairCircuit> FAIRS = HourTest::fairs;
    /** In the first hour of fair 0, with ride 0 from foot 0 and ride 3 from foot 20, both up and checked. */
    private static final Supplier<FairCircuit> OPENED = Checks::opened;
    /** The hour 0 of 1999. */
    private static final Supplier<FairCircuit> LAST_YEAR = at(Checks::circuit, 1999, 0);

    /** Fairs of a day, of two days, of nine days late in the year, around Easter, and on the first day. */
    private static FairCircuit fairs() {
        FairCircuit x = new FairCircuit();
        x.family(true);
        x.fair('f', 10, 1, 100, 1);
        x.fair('f', 20, 2, 100, 1);
        x.fair('f', 350, 9, 100, 1);
        x.fair('m', -60, 1, 100, 1);
        x.fair('m', 200, 1, 100, 1);
        x.fair('f', 0, 1, 100, 1);
        x.ride(0, 'a', 20, 10, 0, 2, 50, 12);
        x.part(0, 1);
        return x;
    }

    /** Lets the time pass until that hour of that year. */
    private static Supplier<FairCircuit> at(Supplier<FairCircuit> world, int year, int hour) {
        return Checks.world(world, x -> {
            while (x.year() < year) x.pass(8760 - x.hour());
            if (x.hour() < hour) x.pass(hour - x.hour());
        });
    }

    private static Supplier<FairCircuit> on(Supplier<FairCircuit> world, int day, int hour) {
        return at(world, 1950, day * 24 + hour);
    }

    private static void years() {
        Supplier<FairCircuit> lastHour = at(Checks::circuit, 1950, 8759);
        Cases.answers("promise 11, hour: the last one of a year", lastHour, x -> x.hour(), 8759);
        Cases.answers("promise 12, year: in its last hour", lastHour, x -> x.year(), 1950);
        Cases.answers("promise 13, pass: out of the last hour of a year", lastHour, x -> x.pass(1), 0);
        Cases.answers("promise 12, year: behind its last hour", Checks.world(lastHour, x -> x.pass(1)), x -> x.year(), 1951);
        Cases.answers("promise 13, pass: a year out of its last hour", lastHour, x -> x.pass(8760), 8759);
        Cases.answers("promise 13, pass: the first hour of 1999", at(Checks::circuit, 1998, 8759), x -> x.pass(1), 0);
        Cases.answers("promise 12, year: the last one", LAST_YEAR, x -> x.year(), 1999);
        Cases.answers("promise 13, pass: up to the last hour of 1999", LAST_YEAR, x -> x.pass(8759), 8759);
        Cases.refuses("promise 13, pass: 1999 would end, from its first hour", LAST_YEAR, x -> x.pass(8760), Checks.STATE);
        Cases.refuses("promise 13, pass: 1999 would end, from its last hour", at(Checks::circuit, 1999, 8759), x -> x.pass(1), Checks.STATE);
        Cases.refuses("promise 13, pass: 1999 would end, in between", at(Checks::circuit, 1999, 8000), x -> x.pass(760), Checks.STATE);
        Cases.answers("promise 13, pass: 1999 does not end, in between", at(Checks::circuit, 1999, 8000), x -> x.pass(759), 8759);
    }

    private static void easters() {
        Supplier<FairCircuit> x = FairCircuit::new;
        Cases.answers("promise 6, easter: the last day of March, in 1991", x, y -> y.easter(1991), 89);
        Cases.answers("promise 6, easter: the first day of April, in 1956", x, y -> y.easter(1956), 90);
        Cases.answers("promise 6, easter: the earliest one, in 1951", x, y -> y.easter(1951), 83);
        Cases.answers("promise 6, easter: the latest one, in 1962", x, y -> y.easter(1962), 111);
        Cases.answers("promise 6, easter: a week less, as m is 1, in 1954", x, y -> y.easter(1954), 107);
        Cases.answers("promise 6, easter: a week less, as m is 1, in 1981", x, y -> y.easter(1981), 108);
        Cases.answers("promise 6, easter: no week less, as m is 0 just so, in 1984", x, y -> y.easter(1984), 111);
        Cases.answers("promise 6, easter: in a year that elsewhere has a day more", x, y -> y.easter(1952), 102);
        Cases.answers("promise 7, start: 60 days ahead of the earliest Easter", at(FAIRS, 1951, 0), y -> y.start(3), 23);
        Cases.answers("promise 7, start: 200 days behind the latest Easter", at(FAIRS, 1962, 0), y -> y.start(4), 311);
        Cases.answers("promise 7, start: 200 days behind Easter of the last year", at(FAIRS, 1999, 8759), y -> y.start(4), 293);
        Cases.answers("promise 7, start: this year's, in its last hour", at(FAIRS, 1950, 8759), y -> y.start(4), 298);
        Cases.answers("promise 7, start: the next year's, in its first hour", at(FAIRS, 1951, 0), y -> y.start(4), 283);
        Cases.answers("promise 7, start: the first day of a year", FAIRS, y -> y.start(5), 0);
        Cases.answers("promise 7, start: on Easter itself", Checks.world(x, y -> y.fair('m', 0, 1, 20, 0)), y -> y.start(0), 98);
    }

    private static void isOpen(String when, int fair, int day, int hour, boolean due) {
        Cases.answers("promise 8, isOpen: " + when, on(FAIRS, day, hour), x -> x.isOpen(fair), due);
    }

    private static void opening() {
        isOpen("the hour 11 of its only day", 0, 10, 11, false);
        isOpen("the hour 12 of its only day", 0, 10, 12, true);
        isOpen("the hour 21 of its only day", 0, 10, 21, true);
        isOpen("the hour 22 of its only day", 0, 10, 22, false);
        isOpen("the hour 12 of the day ahead", 0, 9, 12, false);
        isOpen("the hour 12 of the day behind", 0, 11, 12, false);
        isOpen("the hour 11 of the first of two days", 1, 20, 11, false);
        isOpen("the hour 12 of the first of two days", 1, 20, 12, true);
        isOpen("the hour 22 of the first of two days", 1, 20, 22, true);
        isOpen("the hour 0 of the second of two days", 1, 21, 0, true);
        isOpen("the hour 21 of the second of two days", 1, 21, 21, true);
        isOpen("the hour 22 of the second of two days", 1, 21, 22, false);
        isOpen("the hour 11 of the first of nine days", 2, 350, 11, false);
        isOpen("the hour 12 of the first of nine days", 2, 350, 12, true);
        isOpen("the hour 21 of the ninth of nine days", 2, 358, 21, true);
        isOpen("the hour 22 of the ninth of nine days", 2, 358, 22, false);
        isOpen("the hour 11, 60 days ahead of Easter", 3, 38, 11, false);
        isOpen("the hour 12, 60 days ahead of Easter", 3, 38, 12, true);
        isOpen("the hour 21, 200 days behind Easter", 4, 298, 21, true);
        isOpen("the hour 22, 200 days behind Easter", 4, 298, 22, false);
        isOpen("the hour 11 of the year's first day", 5, 0, 11, false);
        isOpen("the hour 12 of the year's first day", 5, 0, 12, true);
        Cases.answers("promise 8, isOpen: the next year's hour 11", at(FAIRS, 1951, 10 * 24 + 11), x -> x.isOpen(0), false);
        Cases.answers("promise 8, isOpen: the next year's hour 12", at(FAIRS, 1951, 10 * 24 + 12), x -> x.isOpen(0), true);
    }

    private static void allotting() {
        Supplier<FairCircuit> told = Checks.world(FAIRS, x -> { for (int i = 0; i < 6; i++) x.apply(i, 0); });
        Cases.answers("promise 28, allot: in the hour ahead of its opening", on(told, 10, 11), x -> x.allot(0), 20);
        Cases.refuses("promise 28, allot: in the hour of its opening", on(told, 10, 12), x -> x.allot(0), Checks.UNSUPPORTED);
        Cases.refuses("promise 28, allot: in its last hour", on(told, 10, 21), x -> x.allot(0), Checks.UNSUPPORTED);
        Cases.refuses("promise 28, allot: in the hour of its end", on(told, 10, 22), x -> x.allot(0), Checks.UNSUPPORTED);
        Cases.refuses("promise 28, allot: in the last hour of the year", on(told, 364, 23), x -> x.allot(0), Checks.UNSUPPORTED);
        Cases.answers("promise 28, allot: 60 days ahead of Easter, the hour ahead", on(told, 38, 11), x -> x.allot(3), 20);
        Cases.refuses("promise 28, allot: 60 days ahead of Easter, the opening", on(told, 38, 12), x -> x.allot(3), Checks.UNSUPPORTED);
        Cases.answers("promise 28, allot: the first hour of the next year", Checks.world(at(told, 1951, 0), x -> x.apply(0, 0)),
            x -> x.allot(0), 20);
        Supplier<FairCircuit> late = Checks.world(on(FAIRS, 15, 0), x -> x.fair('f', 14, 9, 50, 0));
        Cases.refuses("promise 28, allot: added behind its opening", late, x -> x.allot(6), Checks.UNSUPPORTED);
        Cases.answers("promise 27, apply: while it is open", on(FAIRS, 10, 12), x -> x.apply(0, 0), 1);
        Cases.answers("promise 27, apply: behind its end", on(FAIRS, 10, 22), x -> x.apply(0, 0), 1);
    }

    private static void crowds() {
        Cases.refuses("promise 36, crowd: the hour 11 of the first day", on(FAIRS, 20, 11), x -> x.crowd(1, 5, 5), Checks.UNSUPPORTED);
        Cases.answers("promise 36, crowd: the hour 12 of the first day", on(FAIRS, 20, 12), x -> x.crowd(1, 5, 5), 0);
        Cases.answers("promise 36, crowd: the hour 21 of the last day", on(FAIRS, 21, 21), x -> x.crowd(1, 5, 5), 0);
        Cases.refuses("promise 36, crowd: the hour 22 of the last day", on(FAIRS, 21, 22), x -> x.crowd(1, 5, 5), Checks.UNSUPPORTED);
        Supplier<FairCircuit> first = Checks.world(on(FAIRS, 20, 12), x -> x.crowd(1, 5, 5));
        Cases.refuses("promise 36, crowd: once more in the same hour", first, x -> x.crowd(1, 5, 5), Checks.UNSUPPORTED);
        Cases.refuses("promise 36, crowd: once more in the day's last hour", on(first, 20, 23), x -> x.crowd(1, 5, 5), Checks.UNSUPPORTED);
        Cases.answers("promise 36, crowd: again in the next day's first hour", on(first, 21, 0), x -> x.crowd(1, 5, 5), 0);
        Cases.answers("promise 36, crowd: again on that day of the next year",
            at(first, 1951, 20 * 24 + 12), x -> x.crowd(1, 5, 5), 0);
        Supplier<FairCircuit> both = Checks.world(first, x -> x.fair('f', 20, 1, 50, 0));
        Cases.answers("promise 36, crowd: on one day at another fair", both, x -> x.crowd(6, 5, 5), 0);
        Supplier<FairCircuit> firstDay = Checks.world(on(FAIRS, 0, 12), x -> x.crowd(5, 5, 5));
        Cases.refuses("promise 36, crowd: once more on the first day of all", firstDay, x -> x.crowd(5, 5, 5), Checks.UNSUPPORTED);
    }

    /** The call is refused in the last busy hour, and taken in the next one. */
    private static void busyUntil(String name, Supplier<FairCircuit> busy, Cases.Call call, Object due) {
        Supplier<FairCircuit> last = Checks.world(busy, x -> { if (x.busy(0) > 1) x.pass(x.busy(0) - 1); });
        Cases.answers(name + ": busy for an hour still", last, x -> x.busy(0), 1);
        Cases.refuses(name + ": in the last busy hour", last, call, Checks.UNSUPPORTED);
        Cases.answers(name + ": in the first free hour", Checks.world(last, x -> x.pass(1)), call, due);
    }

    private static void busyHours() {
        Supplier<FairCircuit> told = Checks.world(Checks::circuit, x -> { x.apply(0, 0); x.allot(0); });
        Supplier<FairCircuit> going = Checks.world(told, x -> x.go(0, 0));
        Supplier<FairCircuit> there = Checks.world(going, x -> x.pass(10));
        Supplier<FairCircuit> building = Checks.world(there, x -> x.up(0));
        Supplier<FairCircuit> built = Checks.world(building, x -> { x.pass(4); x.up(0); });
        Supplier<FairCircuit> pulling = Checks.world(built, x -> { x.pass(3); x.down(0); });
        Cases.answers("promise 19, busy: 10 hours from winter quarters", going, x -> x.busy(0), 10);
        Cases.answers("promise 19, busy: the way", Checks.world(there, x -> x.go(0, 1)), x -> x.busy(0), 3);
        Cases.answers("promise 19, busy: not at all, to the same fair", Checks.world(there, x -> x.go(0, 0)), x -> x.busy(0), 0);
        Cases.answers("promise 19, busy: not at all, to winter quarters", Checks.world(there, x -> x.go(0, -1)), x -> x.busy(0), 0);
        Cases.answers("promise 19, busy: the hours of the part", building, x -> x.busy(0), 4);
        Cases.answers("promise 19, busy: half of the hours of all", pulling, x -> x.busy(0), 3);
        Cases.answers("promise 19, busy: never below 0", Checks.world(going, x -> x.pass(8760)), x -> x.busy(0), 0);
        Cases.refuses("promise 20, go: one of two parts is up", Checks.world(building, x -> x.pass(4)), x -> x.go(0, 1), Checks.UNSUPPORTED);
        Cases.refuses("promise 20, go: home, one of two parts is up", Checks.world(building, x -> x.pass(4)), x -> x.go(0, -1), Checks.UNSUPPORTED);
        Cases.answers("promise 18, at: to which it goes, in the first hour", going, x -> x.at(0), 0);
        Cases.answers("promise 17, partsUp: one that is going up, in the first hour", building, x -> x.partsUp(0), 1);
        Cases.answers("promise 17, partsUp: none from the beginning on", pulling, x -> x.partsUp(0), 0);
        busyUntil("promise 20, go: behind going", going, x -> x.go(0, 1), 3);
        busyUntil("promise 20, go: home, behind going", going, x -> x.go(0, -1), 0);
        busyUntil("promise 20, go: behind pulling down", pulling, x -> x.go(0, 1), 3);
        busyUntil("promise 21, up: behind going", going, x -> x.up(0), 1);
        busyUntil("promise 21, up: behind the part ahead", building, x -> x.up(0), 2);
        busyUntil("promise 21, up: behind pulling down", pulling, x -> x.up(0), 1);
        busyUntil("promise 22, down: behind the first part", building, x -> x.down(0), 2);
        busyUntil("promise 22, down: behind the last part", built, x -> x.down(0), 3);
        Supplier<FairCircuit> late = Checks.world(at(Checks::circuit, 1950, 8759), x -> x.go(0, 0));
        busyUntil("promise 20, go: over the end of a year", late, x -> x.go(0, -1), 0);
        keepsWhileBusy(building, built);
    }

    private static void keepsWhileBusy(Supplier<FairCircuit> building, Supplier<FairCircuit> built) {
        Cases.answers("promise 34, keeps: the first part is up, the next is not", Checks.world(building, x -> x.pass(4)), x -> x.keeps(0), 'b');
        Cases.answers("promise 34, keeps: the last busy hour", Checks.world(built, x -> x.pass(2)), x -> x.keeps(0), 'b');
        Cases.answers("promise 34, keeps: the first free hour", Checks.world(built, x -> x.pass(3)), x -> x.keeps(0), 't');
    }

    /** From the end of fair 0 to the opening of fair 1 there are 14 hours; the way between them takes so long. */
    private static Supplier<FairCircuit> ride(int wayHours, int... parts) {
        return () -> {
            FairCircuit x = new FairCircuit();
            x.family(true);
            x.fair('f', 1, 1, 50, 0);
            x.fair('f', 2, 1, 50, 0);
            if (wayHours > 0) x.road(0, 1, 20 * wayHours, 12);
            x.ride(0, 'a', 10, 12, 0, 1, 1, 0);
            for (int hours : parts) x.part(0, hours);
            return x;
        };
    }

    private static void makes(String name, Supplier<FairCircuit> world, boolean due) {
        Cases.answers("promise 23, canMake: " + name, world, x -> x.canMake(0, 0, 1), due);
        Cases.gives("promise 24, tour: " + name, world, x -> x.tour(0, 1), due ? 1 : Checks.NO_ELEMENT);
    }

    private static void making() {
        makes("an hour ahead of its opening, 4 + 1 + 8", ride(1, 8), true);
        makes("at the hour of its opening, 4 + 2 + 8", ride(2, 8), true);
        makes("an hour behind its opening, 4 + 3 + 8", ride(3, 8), false);
        makes("half of the hours of all is cut, 4 + 1 + 9", ride(1, 4, 5), true);
        makes("half of the hours of all, 5 + 1 + 9", ride(1, 5, 5), false);
        makes("no way", ride(0), false);
        for (int miles = 79; miles < 82; miles++) {
            int first = miles;
            Supplier<FairCircuit> round = Checks.world(ride(0), x -> {
                x.fair('f', 40, 1, 50, 0);
                x.road(0, 2, first, 12);
                x.road(2, 1, 200, 12);
            });
            Cases.answers("promise 23, canMake: no part, a way of 14 hours for 280 miles, here " + (miles + 200), round,
                x -> x.canMake(0, 0, 1), miles <= 80);
        }
        Supplier<FairCircuit> sameDay = Checks.world(ride(1), x -> x.fair('f', 1, 1, 50, 0));
        Cases.answers("promise 23, canMake: itself", ride(1), x -> x.canMake(0, 0, 0), false);
        Cases.answers("promise 23, canMake: the one ahead", ride(1), x -> x.canMake(0, 1, 0), false);
        Cases.answers("promise 23, canMake: one on the same day", Checks.world(sameDay, x -> x.road(0, 2, 1, 12)), x -> x.canMake(0, 0, 2), false);
        makingFromTheLastDay();
    }

    private static void makingFromTheLastDay() {
        Supplier<FairCircuit> world = () -> {
            FairCircuit x = new FairCircuit();
            x.family(true);
            x.fair('f', 1, 9, 50, 0);
            x.fair('f', 9, 1, 50, 0);
            x.fair('f', 10, 1, 50, 0);
            x.fair('m', -60, 1, 50, 0);
            x.fair('f', 39, 1, 50, 0);
            x.road(0, 1, 1, 20);
            x.road(0, 2, 200, 20);
            x.road(3, 4, 1, 20);
            x.ride(0, 'a', 10, 12, 0, 1, 1, 0);
            x.part(0, 2);
            return x;
        };
        Cases.answers("promise 23, canMake: 13 hours behind the last of nine days", world, x -> x.canMake(0, 0, 2), true);
        Cases.answers("promise 23, canMake: one on the last of nine days", world, x -> x.canMake(0, 0, 1), false);
        Supplier<FairCircuit> tight = Checks.world(world, x -> { x.part(0, 1); });
        Cases.answers("promise 23, canMake: 14 hours behind the last of nine days", tight, x -> x.canMake(0, 0, 2), true);
        Supplier<FairCircuit> late = Checks.world(tight, x -> { x.part(0, 1); });
        Cases.answers("promise 23, canMake: 16 hours behind the last of nine days", late, x -> x.canMake(0, 0, 2), false);
        Cases.answers("promise 23, canMake: Easter of 1950 is the day 98", late, x -> x.canMake(0, 3, 4), true);
        Cases.answers("promise 23, canMake: Easter of 1957 is the day 110", at(late, 1957, 0), x -> x.canMake(0, 3, 4), false);
        Cases.answers("promise 23, canMake: fairs of this year that are over", at(late, 1950, 8759), x -> x.canMake(0, 3, 4), true);
    }

    private static void test(String name, int firstHour, int hours, int due) {
        Supplier<FairCircuit> tested = Checks.world(at(Checks::circuit, 1950, firstHour), x -> x.test(0));
        Supplier<FairCircuit> then = Checks.world(tested, x -> { if (hours > 0) x.pass(hours); });
        Cases.answers("promise 31, test: " + name, then, x -> x.test(0), due);
    }

    private static void daysOfTests() {
        Cases.answers("promise 31, test: without one", Checks::circuit, x -> x.test(0), -1);
        test("twice in the first hour of all", 0, 0, 0);
        test("the last hour of the same day", 24, 23, 0);
        test("the first hour of the next day", 24, 24, 1);
        test("the last hour of a day, and the next one", 47, 1, 1);
        test("the last hour of a year, and the next one", 8759, 1, 1);
        test("the last hour of 364 days", 24, 365 * 24 - 1, 364);
        test("a year", 24, 365 * 24, 365);
        Supplier<FairCircuit> yearly = tested(1);
        Cases.answers("promise 34, keeps: tested on this day", Checks.world(OPENED, x -> x.test(3)), x -> x.keeps(3), '-');
        Cases.answers("promise 34, keeps: tested 364 days ahead", at(yearly, 1951, 24), x -> checkedKeeps(x), '-');
        Cases.answers("promise 34, keeps: tested 364 days ahead, in the last hour", at(yearly, 1951, 47), x -> checkedKeeps(x), '-');
        Cases.answers("promise 34, keeps: tested 365 days ahead", at(yearly, 1951, 48), x -> checkedKeeps(x), 't');
        Cases.answers("promise 34, keeps: never tested", at(tested(0), 1951, 24), x -> checkedKeeps(x), 't');
        Cases.answers("promise 34, keeps: tested once more, 365 days behind", at(yearly, 1951, 48), x -> {
            x.test(0);
            return checkedKeeps(x);
        }, '-');
    }

    private static char checkedKeeps(FairCircuit x) {
        x.check(0);
        return x.keeps(0);
    }

    /** A ride that stands at its ground in two years, tested in the last hour of day 2 of the first one, or never. */
    private static Supplier<FairCircuit> tested(int times) {
        return () -> {
            FairCircuit x = new FairCircuit();
            x.family(true);
            x.fair('f', 1, 9, 100, 0);
            x.ride(0, 'a', 10, 8, 0, 1, 1, 12);
            x.part(0, 1);
            x.apply(0, 0);
            x.allot(0);
            x.go(0, 0);
            x.pass(10);
            x.up(0);
            x.pass(3 * 24 - 1 - x.hour());
            for (int i = 0; i < times; i++) x.test(0);
            x.pass(8760 - x.hour());
            x.apply(0, 0);
            x.allot(0);
            return x;
        };
    }

    private static void daysOfChecks() {
        Supplier<FairCircuit> checked = OPENED;
        Cases.answers("promise 34, keeps: checked, in the day's last hour", on(checked, 10, 23), x -> x.keeps(0), '-');
        Cases.answers("promise 34, keeps: checked, in the next day's first hour", on(checked, 11, 0), x -> x.keeps(0), 'c');
        Cases.answers("promise 34, keeps: checked in the last hour of the day ahead",
            Checks.world(on(checked, 10, 23), x -> { x.check(0); x.pass(1); }), x -> x.keeps(0), 'c');
        Cases.answers("promise 34, keeps: checked in the first hour of the day",
            Checks.world(on(checked, 11, 0), x -> { x.check(0); x.pass(23); }), x -> x.keeps(0), '-');
        Supplier<FairCircuit> nextYear = Checks.world(at(checked, 1951, 0), x -> {
            x.apply(0, 0);
            x.allot(0);
            x.pass(10 * 24 + 12);
            x.test(0);
        });
        Cases.answers("promise 34, keeps: checked on that day of the last year", nextYear, x -> x.keeps(0), 'c');
        Supplier<FairCircuit> never = Checks.world(Checks::circuit, x -> {
            x.fair('f', 0, 1, 50, 0);
            x.apply(2, 3);
            x.allot(2);
            x.go(3, 2);
            x.pass(10);
            x.up(3);
            x.pass(1);
            x.test(3);
        });
        Cases.answers("promise 34, keeps: never checked, on the first day of all", never, x -> x.keeps(3), 'c');
    }

    private static void rightsAre(String name, Supplier<FairCircuit> world, int year, int hour, boolean isHeld) {
        Cases.gives("promise 26, holder: " + name, at(world, year, hour), x -> x.holder(0, 0), isHeld ? 0 : Checks.NO_ELEMENT);
        Cases.gives("promise 25, right: over one " + name, at(world, year, hour), x -> x.right(0, 0, 0, 10),
            isHeld ? Checks.UNSUPPORTED : 1);
    }

    private static void yearsOfRights() {
        Supplier<FairCircuit> given = Checks.world(FAIRS, x -> x.right(0, 0, 0, 40));
        rightsAre("given this year", given, 1950, 8759, true);
        rightsAre("given the year ahead", given, 1951, 8759, true);
        rightsAre("given two years ahead, in the last hour", given, 1952, 8759, true);
        rightsAre("given three years ahead, in the first hour", given, 1953, 0, false);
        rightsAre("given in the last hour of 1950, two years on", Checks.world(at(FAIRS, 1950, 8759), x -> x.right(0, 0, 0, 40)), 1952, 8759, true);
        rightsAre("given in the last hour of 1950, three years on", Checks.world(at(FAIRS, 1950, 8759), x -> x.right(0, 0, 0, 40)), 1953, 0, false);
        Supplier<FairCircuit> used = Checks.world(at(given, 1952, 0), x -> { x.apply(0, 0); x.allot(0); });
        rightsAre("used two years ahead, in the last hour", used, 1954, 8759, true);
        rightsAre("used three years ahead, in the first hour", used, 1955, 0, false);
        Supplier<FairCircuit> told = Checks.world(at(given, 1952, 0), x -> x.apply(0, 0));
        rightsAre("told for, but not used", told, 1953, 0, false);
        Supplier<FairCircuit> lost = Checks.world(at(given, 1953, 0), x -> { x.right(0, 0, 50, 60); x.apply(0, 0); x.allot(0); });
        Cases.refuses("promise 26, holder: a lost right is not used by allotting", lost, x -> x.holder(0, 0), Checks.NO_ELEMENT);
        Cases.answers("promise 25, right: how many are not lost, in the last hour", at(given, 1952, 8759), x -> x.right(0, 0, 40, 50), 2);
        Cases.answers("promise 25, right: how many are not lost, in the first hour", at(given, 1953, 0), x -> x.right(0, 0, 40, 50), 1);
        Cases.answers("promise 25, right: twice over lost ones", at(Checks.world(at(given, 1953, 0), x -> x.right(0, 0, 0, 5)), 1956, 0),
            x -> x.right(0, 0, 0, 40), 1);
        Cases.answers("promise 26, holder: of the right over a lost one", Checks.world(at(given, 1953, 0), x -> {
            x.family(false);
            x.right(0, 1, 0, 10);
        }), x -> x.holder(0, 0), 1);
    }

    private static void winds() {
        for (int own : new int[] {0, 6, 12}) {
            Supplier<FairCircuit> ready = Checks.world(FAIRS, x -> {
                x.ride(0, 'a', 20, 10, 0, 2, 50, own);
                x.part(1, 1);
                x.apply(0, 1);
                x.allot(0);
                x.go(1, 0);
                x.pass(10);
                x.up(1);
                x.pass(1);
                x.test(1);
                x.check(1);
            });
            Cases.answers("promise 34, keeps: its own wind, " + own, Checks.world(ready, x -> x.wind(own)), x -> x.keeps(1), '-');
            if (own < 12) {
                Cases.answers("promise 34, keeps: the wind above its own, " + own, Checks.world(ready, x -> x.wind(own + 1)), x -> x.keeps(1), 'w');
            }
        }
    }

    private static Supplier<FairCircuit> unready(Consumer<FairCircuit> steps) {
        return Checks.world(Checks::circuit, x -> {
            steps.accept(x);
            x.defect(0, true);
            x.wind(12);
        });
    }

    /** Of each two neighbours in the row of what keeps a ride, both apply. */
    private static void firstOfWhatKeeps() {
        Consumer<FairCircuit> there = x -> { x.apply(0, 0); x.allot(0); x.go(0, 0); x.pass(10); };
        Consumer<FairCircuit> built = x -> { there.accept(x); x.up(0); x.pass(4); x.up(0); x.pass(3); };
        Cases.answers("promise 34, keeps: l comes ahead of b", unready(x -> { }), x -> x.keeps(0), 'l');
        Cases.answers("promise 34, keeps: l comes ahead of b, on the way", unready(x -> x.go(0, 0)), x -> x.keeps(0), 'l');
        Cases.answers("promise 34, keeps: b comes ahead of t", unready(there), x -> x.keeps(0), 'b');
        Cases.answers("promise 34, keeps: t comes ahead of d", unready(built), x -> x.keeps(0), 't');
        Supplier<FairCircuit> tested = Checks.world(unready(built), x -> x.test(0));
        Cases.answers("promise 34, keeps: d comes ahead of c", tested, x -> x.keeps(0), 'd');
        Cases.answers("promise 34, keeps: c comes ahead of w", Checks.world(tested, x -> x.defect(0, false)), x -> x.keeps(0), 'c');
        Cases.answers("promise 34, keeps: l, all parts up and all else well", at(OPENED, 1951, 0), x -> x.keeps(3), 'l');
    }

    public static void main(String[] args) {
        years();
        easters();
        opening();
        allotting();
        crowds();
        busyHours();
        making();
        daysOfTests();
        daysOfChecks();
        yearsOfRights();
        winds();
        firstOfWhatKeeps();
        Checks.end("HourTest");
    }
}
