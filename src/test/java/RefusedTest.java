import java.util.LinkedHashMap;
import java.util.Map;
import java.util.function.Supplier;

/**
 * Refused calls in a circuit in which everything is there and everything is full: behind each of them
 * the object answers and goes on as one on which it was not made, whichever way it is looked at.
 */
public final class RefusedTest {
    private static final Supplier<FairCircuit> FULL = () -> full(1950);
    private static final Supplier<FairCircuit> LAST_YEAR = () -> full(1999);
    private static final Supplier<FairCircuit> WITHOUT_RIDES = RefusedTest::withoutRides;
    private static final Map<String, Cases.Call> VIEWS = new LinkedHashMap<>();

    /**
     * The hour 13 of day 20. Fairs 0 and 1 are open, 0 had its crowd, 2 is allotted, 3 has told rides
     * and 10 rights, 4 is over, 7 has no road. Ride 0 runs at fair 0, 1 at 1, 2 is partly up at 0,
     * 3 is on its way to 2, 4 is at 7, 5 has six parts, the others are in winter quarters.
     */
    private static FairCircuit full(int year) {
        FairCircuit x = new FairCircuit();
        while (x.year() < year) x.pass(8760);
        addFamiliesAndFairs(x);
        for (int i = 0; i < 12; i++) x.ride(i % 7, (char) ('a' + i % 5), 15, 10, 5, 2, 40, 6);
        int[] parts = {2, 2, 2, 1, 1, 6};
        for (int i = 0; i < parts.length; i++) for (int p = 0; p < parts[i]; p++) x.part(i, 3);
        tell(x);
        bring(x);
        return x;
    }

    private static FairCircuit withoutRides() {
        FairCircuit x = new FairCircuit();
        addFamiliesAndFairs(x);
        for (int i = 0; i < 3; i++) x.allot(i);
        x.pass(20 * 24 + 13);
        x.crowd(0, 9, 9);
        return x;
    }

    private static void addFamiliesAndFairs(FairCircuit x) {
        for (int i = 0; i < 8; i++) x.family(i % 2 == 0);
        int[] days = {20, 19, 40, 60, 5, 70, 80, 90};
        for (int i = 0; i < 8; i++) x.fair(i == 5 ? 'm' : 'f', days[i], 3, 100, 1);
        for (int i = 0; i < 6; i++) x.road(i, i + 1, 30, 12);
        for (int i = 0; i < 10; i++) x.right(3, i % 7, 10 * i, 10 * i + 8);
        x.right(2, 3, 50, 80);
        x.dies(7, 0);
        for (int i = 0; i < 2; i++) x.power(i, 50);
        x.wind(3);
    }

    private static void tell(FairCircuit x) {
        for (int i = 0; i < 3; i++) x.apply(0, 2 * i);
        for (int i = 0; i < 3; i++) x.apply(1, i);
        for (int i = 2; i < 5; i++) x.apply(2, i);
        for (int i = 0; i < 2; i++) x.apply(3, i);
        for (int i = 0; i < 3; i++) x.allot(i);
    }

    private static void bring(FairCircuit x) {
        x.go(0, 0);
        x.go(1, 1);
        x.go(2, 0);
        x.go(4, 7);
        x.pass(10);
        for (int i = 0; i < 3; i++) x.up(i);
        x.pass(3);
        for (int i = 0; i < 2; i++) x.up(i);
        x.pass(20 * 24 + 13 - x.hour());
        x.go(3, 2);
        for (int i = 0; i < 2; i++) {
            x.test(i);
            x.check(i);
        }
        x.crowd(0, 9, 9);
        x.sell(6, 1, 5);
    }

    private static void note(StringBuilder s, Cases.Call call, FairCircuit x) {
        s.append(Checks.answer(() -> call.on(x))).append(' ');
    }

    private static Object familiesAndFairs(FairCircuit x) {
        StringBuilder s = new StringBuilder();
        note(s, y -> y.checksum(), x);
        note(s, y -> y.year(), x);
        for (int i = 0; i < 9; i++) {
            int n = i;
            note(s, y -> y.money(n), x);
            note(s, y -> y.start(n), x);
            note(s, y -> y.isOpen(n), x);
            note(s, y -> y.filledShare(n), x);
            for (int foot = 4; foot < 100; foot += 10) {
                int f = foot;
                note(s, y -> y.holder(n, f), x);
                note(s, y -> y.standing(n, f), x);
            }
        }
        return s.toString();
    }

    private static Object rides(FairCircuit x) {
        StringBuilder s = new StringBuilder();
        note(s, y -> y.isTrue(), x);
        for (int i = 0; i < 13; i++) {
            int n = i;
            note(s, y -> y.partsUp(n), x);
            note(s, y -> y.at(n), x);
            note(s, y -> y.busy(n), x);
            note(s, y -> y.keeps(n), x);
            note(s, y -> y.takings(n), x);
            for (int k = 0; k < 3; k++) {
                int index = k;
                note(s, y -> y.owner(n, index), x);
                note(s, y -> y.tour(n, index), x);
                note(s, y -> y.placeOf(index, n), x);
            }
        }
        return s.toString();
    }

    private static Object toldAnew(FairCircuit x) {
        StringBuilder s = new StringBuilder();
        note(s, y -> y.wind(0), x);
        for (int i = 0; i < 12; i++) {
            int n = i;
            note(s, y -> y.power(n, 0), x);
            note(s, y -> y.test(n), x);
            note(s, y -> y.defect(n, false), x);
            for (int k = 0; k < i && i < 8; k++) {
                int other = k;
                note(s, y -> y.way(n, other, 12), x);
                note(s, y -> y.way(n, other, 8), x);
                note(s, y -> y.road(n, other, 100, 8), x);
            }
        }
        return s.toString();
    }

    // The views begin with what is taken: what a refused call of theirs changes, would hide what is looked for.
    private static Object crowds(FairCircuit x) {
        StringBuilder s = new StringBuilder();
        note(s, y -> y.crowd(1, 50, 9), x);
        note(s, y -> y.checksum(), x);
        for (int i = 0; i < 8; i++) {
            int n = i;
            note(s, y -> y.crowd(n, 50, 9), x);
        }
        note(s, y -> y.checksum(), x);
        return s.toString();
    }

    private static Object allots(FairCircuit x) {
        StringBuilder s = new StringBuilder();
        for (int i = 3; i < 8; i++) {
            int n = i;
            note(s, y -> y.allot(n == 4 ? 2 : n), x);
            note(s, y -> y.checksum(), x);
        }
        return s.toString();
    }

    private static Object tells(FairCircuit x) {
        StringBuilder s = new StringBuilder();
        for (int i = 7; i >= 0; i--) {
            int n = i;
            for (int r = 0; r < 10; r++) {
                int ride = r;
                note(s, y -> y.apply(n, ride), x);
            }
            note(s, y -> y.right(n, 1, 90, 95), x);
            note(s, y -> y.allot(n), x);
            note(s, y -> y.checksum(), x);
        }
        return s.toString();
    }

    private static Object deaths(FairCircuit x) {
        StringBuilder s = new StringBuilder();
        note(s, y -> y.dies(6, 1), x);
        note(s, y -> y.dies(1, 2), x);
        note(s, y -> y.checksum(), x);
        for (int i = 7; i >= 0; i--) {
            int n = i;
            note(s, y -> y.dies(n, 2), x);
        }
        return s.toString();
    }

    private static Object moves(FairCircuit x) {
        StringBuilder s = new StringBuilder();
        for (int i = 0; i < 12; i++) {
            int n = i;
            note(s, y -> y.up(n), x);
            note(s, y -> y.down(n), x);
            note(s, y -> y.part(n, 2), x);
            note(s, y -> y.go(n, 1), x);
            note(s, y -> y.busy(n), x);
            note(s, y -> y.canMake(n, 0, 2), x);
        }
        note(s, y -> y.pass(10), x);
        for (int i = 0; i < 12; i++) {
            int n = i;
            note(s, y -> y.up(n), x);
            note(s, y -> y.busy(n), x);
        }
        return s.toString();
    }

    private static Object nextYear(FairCircuit x) {
        StringBuilder s = new StringBuilder();
        note(s, y -> y.pass(8760 - y.hour()), x);
        for (int i = 0; i < 4; i++) {
            int n = i;
            for (int r = 0; r < 8; r++) {
                int ride = r;
                note(s, y -> y.apply(n, ride), x);
            }
            note(s, y -> y.allot(n), x);
            note(s, y -> y.right(n, 0, 98, 100), x);
            note(s, y -> y.checksum(), x);
        }
        for (int i = 7; i >= 0; i--) {
            int n = i;
            note(s, y -> y.sell(5, n, 1), x);
            note(s, y -> y.dies(n, 6), x);
        }
        note(s, y -> y.checksum(), x);
        note(s, y -> y.family(true), x);
        note(s, y -> y.fair('f', 1, 1, 20, 0), x);
        note(s, y -> y.ride(6, 'a', 5, 8, 0, 1, 1, 0), x);
        note(s, y -> y.meanTakings(), x);
        note(s, y -> y.checksum(), x);
        return s.toString();
    }

    private static void refused(String name, Supplier<FairCircuit> world, Cases.Call call, Class<?> due) {
        String whole = "promise " + name + ", in a full circuit";
        Cases.answers(whole + ", is refused", world, x -> Checks.answer(() -> call.on(x)), due.getSimpleName());
        for (Map.Entry<String, Cases.Call> view : VIEWS.entrySet()) {
            Object untouched = view.getValue().on(world.get());
            Cases.answers(whole + ", leaves " + view.getKey(), world, x -> {
                Checks.answer(() -> call.on(x));
                return view.getValue().on(x);
            }, untouched);
        }
    }

    private static void refused(String name, Cases.Call call, Class<?> due) {
        refused(name, FULL, call, due);
    }

    private static void familiesAreRefused() {
        refused("2, family: there are 8", x -> x.family(true), Checks.STATE);
        refused("3, money: no family", x -> x.money(8), Checks.INDEX);
        refused("4, fine: no family", x -> x.fine(8, 5), Checks.INDEX);
        refused("4, fine: no amount", x -> x.fine(0, 0), Checks.ARGUMENT);
        refused("38, dies: no family", x -> x.dies(8, 0), Checks.INDEX);
        refused("38, dies: no heir", x -> x.dies(0, 8), Checks.INDEX);
        refused("38, dies: both are the same", x -> x.dies(1, 1), Checks.UNSUPPORTED);
        refused("38, dies: it died out", x -> x.dies(7, 1), Checks.UNSUPPORTED);
        refused("38, dies: the heir died out", x -> x.dies(1, 7), Checks.UNSUPPORTED);
        refused("39, sell: no ride", x -> x.sell(12, 0, 5), Checks.INDEX);
        refused("39, sell: no family", x -> x.sell(0, 8, 5), Checks.INDEX);
        refused("39, sell: too high a price", x -> x.sell(0, 1, 10000), Checks.ARGUMENT);
        refused("39, sell: it is of that family", x -> x.sell(0, 0, 5), Checks.UNSUPPORTED);
        refused("39, sell: the family died out", x -> x.sell(0, 7, 5), Checks.UNSUPPORTED);
        refused("40, owner: no ride", x -> x.owner(12, 0), Checks.INDEX);
        refused("40, owner: no index", x -> x.owner(0, 1), Checks.NO_ELEMENT);
    }

    private static void fairsAreRefused() {
        refused("5, fair: no charter", x -> x.fair('a', 5, 1, 50, 0), Checks.ARGUMENT);
        refused("5, fair: too many feet", x -> x.fair('f', 5, 1, 201, 0), Checks.ARGUMENT);
        refused("5, fair: there are 8", x -> x.fair('f', 5, 1, 50, 0), Checks.STATE);
        refused("6, easter: no such year", x -> x.easter(2000), Checks.ARGUMENT);
        refused("7, start: no fair", x -> x.start(8), Checks.INDEX);
        refused("8, isOpen: no fair", x -> x.isOpen(8), Checks.INDEX);
        refused("9, road: no fair", x -> x.road(8, 0, 5, 8), Checks.INDEX);
        refused("9, road: both are the same", x -> x.road(0, 0, 5, 8), Checks.ARGUMENT);
        refused("9, road: no miles", x -> x.road(0, 1, 0, 8), Checks.ARGUMENT);
        refused("9, road: too high", x -> x.road(0, 1, 5, 21), Checks.ARGUMENT);
        refused("10, way: no fair", x -> x.way(8, 0, 8), Checks.INDEX);
        refused("10, way: too high", x -> x.way(0, 1, 21), Checks.ARGUMENT);
        refused("10, way: no way", x -> x.way(0, 7, 8), Checks.NO_ELEMENT);
        refused("13, pass: no hours", x -> x.pass(0), Checks.ARGUMENT);
        refused("13, pass: too many hours", x -> x.pass(8761), Checks.ARGUMENT);
        refused("13, pass: 1999 would end", LAST_YEAR, x -> x.pass(8760), Checks.STATE);
        refused("14, wind: too strong", x -> x.wind(13), Checks.ARGUMENT);
    }

    private static void ridesAreRefused() {
        refused("15, ride: no family", x -> x.ride(8, 'a', 5, 8, 0, 1, 1, 0), Checks.INDEX);
        refused("15, ride: no kind", x -> x.ride(0, 'f', 5, 8, 0, 1, 1, 0), Checks.ARGUMENT);
        refused("15, ride: no room", x -> x.ride(0, 'a', 5, 8, 0, 1, 0, 0), Checks.ARGUMENT);
        refused("15, ride: the family died out", x -> x.ride(7, 'a', 5, 8, 0, 1, 1, 0), Checks.UNSUPPORTED);
        refused("15, ride: there are 12", x -> x.ride(0, 'a', 5, 8, 0, 1, 1, 0), Checks.STATE);
        refused("16, part: no ride", x -> x.part(12, 1), Checks.INDEX);
        refused("16, part: too many hours", x -> x.part(3, 21), Checks.ARGUMENT);
        refused("16, part: a part is up", x -> x.part(2, 1), Checks.UNSUPPORTED);
        refused("16, part: it has 6", x -> x.part(5, 1), Checks.STATE);
        refused("17, partsUp: no ride", x -> x.partsUp(12), Checks.INDEX);
        refused("18, at: no ride", x -> x.at(12), Checks.INDEX);
        refused("19, busy: no ride", x -> x.busy(12), Checks.INDEX);
        refused("20, go: no ride", x -> x.go(12, 0), Checks.INDEX);
        refused("20, go: no fair", x -> x.go(6, 8), Checks.INDEX);
        refused("20, go: a part is up", x -> x.go(2, 1), Checks.UNSUPPORTED);
        refused("20, go: it is busy", x -> x.go(3, -1), Checks.UNSUPPORTED);
        refused("20, go: no way", x -> x.go(4, 0), Checks.NO_ELEMENT);
        refused("21, up: no ride", x -> x.up(12), Checks.INDEX);
        refused("21, up: it is busy", x -> x.up(3), Checks.UNSUPPORTED);
        refused("21, up: no ground", x -> x.up(4), Checks.UNSUPPORTED);
        refused("21, up: in winter quarters", x -> x.up(5), Checks.UNSUPPORTED);
        refused("21, up: all are up", x -> x.up(0), Checks.UNSUPPORTED);
        refused("22, down: no ride", x -> x.down(12), Checks.INDEX);
        refused("22, down: it is busy", x -> x.down(3), Checks.UNSUPPORTED);
        refused("22, down: no part is up", x -> x.down(4), Checks.UNSUPPORTED);
        refused("23, canMake: no ride", x -> x.canMake(12, 0, 1), Checks.INDEX);
        refused("23, canMake: no fair", x -> x.canMake(0, 8, 1), Checks.INDEX);
        refused("24, tour: no ride", x -> x.tour(12, 0), Checks.INDEX);
        refused("24, tour: no index", x -> x.tour(0, 8), Checks.NO_ELEMENT);
    }

    private static void groundIsRefused() {
        refused("25, right: no fair", x -> x.right(8, 0, 0, 10), Checks.INDEX);
        refused("25, right: no family", x -> x.right(0, 8, 0, 10), Checks.INDEX);
        refused("25, right: no foot", x -> x.right(0, 0, 10, 10), Checks.ARGUMENT);
        refused("25, right: behind the ground", x -> x.right(0, 0, 10, 101), Checks.ARGUMENT);
        refused("25, right: it overlaps", x -> x.right(2, 0, 70, 90), Checks.UNSUPPORTED);
        refused("25, right: the family died out", x -> x.right(2, 7, 0, 10), Checks.UNSUPPORTED);
        refused("25, right: there are 10", x -> x.right(3, 0, 98, 100), Checks.STATE);
        refused("26, holder: no fair", x -> x.holder(8, 0), Checks.INDEX);
        refused("26, holder: no foot", x -> x.holder(3, 100), Checks.INDEX);
        refused("26, holder: no right", x -> x.holder(3, 99), Checks.NO_ELEMENT);
        refused("27, apply: no fair", x -> x.apply(8, 0), Checks.INDEX);
        refused("27, apply: no ride", x -> x.apply(3, 12), Checks.INDEX);
        refused("27, apply: it is told", x -> x.apply(3, 1), Checks.UNSUPPORTED);
        refused("27, apply: the ground was allotted", x -> x.apply(2, 9), Checks.UNSUPPORTED);
        refused("28, allot: no fair", x -> x.allot(8), Checks.INDEX);
        refused("28, allot: it was allotted", x -> x.allot(2), Checks.UNSUPPORTED);
        refused("28, allot: it opened", x -> x.allot(4), Checks.UNSUPPORTED);
        refused("29, standing: no fair", x -> x.standing(8, 0), Checks.INDEX);
        refused("29, standing: no foot", x -> x.standing(0, -1), Checks.INDEX);
        refused("29, standing: no ride", x -> x.standing(0, 99), Checks.NO_ELEMENT);
        refused("30, placeOf: no fair", x -> x.placeOf(8, 0), Checks.INDEX);
        refused("30, placeOf: no ride", x -> x.placeOf(0, 12), Checks.INDEX);
        refused("30, placeOf: no ground", x -> x.placeOf(0, 1), Checks.NO_ELEMENT);
        refused("41, filledShare: no fair", x -> x.filledShare(8), Checks.INDEX);
    }

    private static void openingIsRefused() {
        refused("31, test: no ride", x -> x.test(12), Checks.INDEX);
        refused("32, check: no ride", x -> x.check(12), Checks.INDEX);
        refused("33, defect: no ride", x -> x.defect(12, true), Checks.INDEX);
        refused("34, keeps: no ride", x -> x.keeps(12), Checks.INDEX);
        refused("35, power: no fair", x -> x.power(8, 5), Checks.INDEX);
        refused("35, power: too much", x -> x.power(0, 501), Checks.ARGUMENT);
        refused("36, crowd: no fair", x -> x.crowd(8, 5, 5), Checks.INDEX);
        refused("36, crowd: no people", x -> x.crowd(1, 0, 5), Checks.ARGUMENT);
        refused("36, crowd: too much money", x -> x.crowd(1, 5, 100), Checks.ARGUMENT);
        refused("36, crowd: it is not open", x -> x.crowd(2, 5, 5), Checks.UNSUPPORTED);
        refused("36, crowd: it had its crowd", x -> x.crowd(0, 5, 5), Checks.UNSUPPORTED);
        refused("37, takings: no ride", x -> x.takings(12), Checks.INDEX);
        refused("42, meanTakings: no rides", WITHOUT_RIDES, x -> x.meanTakings(), ArithmeticException.class);
    }

    /** The circuit is as full as its description says: else the cases would show less. */
    private static void theFullCircuit() {
        Cases.answers("promise 34, keeps: in a full circuit", FULL, x -> {
            StringBuilder s = new StringBuilder();
            for (int i = 0; i < 12; i++) s.append(x.keeps(i));
            return s.toString();
        }, "--bbllllllll");
        Cases.answers("promise 18, at: in a full circuit", FULL, x -> {
            StringBuilder s = new StringBuilder();
            for (int i = 0; i < 6; i++) s.append(x.at(i)).append(' ');
            return s.toString();
        }, "0 1 0 2 7 -1 ");
        Cases.answers("promise 36, crowd: in a full circuit", FULL, x -> x.crowd(1, 50, 9), 80);
    }

    public static void main(String[] args) {
        VIEWS.put("families and fairs", RefusedTest::familiesAndFairs);
        VIEWS.put("rides", RefusedTest::rides);
        VIEWS.put("what is told", RefusedTest::toldAnew);
        VIEWS.put("crowds", RefusedTest::crowds);
        VIEWS.put("what is allotted", RefusedTest::allots);
        VIEWS.put("what rides are told", RefusedTest::tells);
        VIEWS.put("deaths", RefusedTest::deaths);
        VIEWS.put("what moves", RefusedTest::moves);
        VIEWS.put("the next year", RefusedTest::nextYear);
        theFullCircuit();
        familiesAreRefused();
        fairsAreRefused();
        ridesAreRefused();
        groundIsRefused();
        openingIsRefused();
        Checks.end("RefusedTest");
    }
}
