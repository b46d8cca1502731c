import java.util.function.Supplier;

/** Calls to which two exceptions apply: the one that is listed first is thrown, and nothing changes. */
public final class OrderTest {
    private static final Supplier<FairCircuit> CIRCUIT = Checks::circuit;
    /** Fair 0 is open, fair 1 is not; rides 0 and 3 are up at fair 0. */
    private static final Supplier<FairCircuit> OPENED = Checks::opened;

    private static void families() {
        Cases.refuses("promise 4, fine: no family, and an amount below", CIRCUIT, x -> x.fine(4, 0), Checks.INDEX);
        Cases.refuses("promise 4, fine: no family, and an amount above", CIRCUIT, x -> x.fine(-1, 1000), Checks.INDEX);
        Cases.refuses("promise 38, dies: no family, and it is its own heir", CIRCUIT, x -> x.dies(4, 4), Checks.INDEX);
        Cases.refuses("promise 38, dies: no family, and the heir died out", CIRCUIT, x -> x.dies(4, 3), Checks.INDEX);
        Cases.refuses("promise 38, dies: no heir, and the family died out", CIRCUIT, x -> x.dies(3, 4), Checks.INDEX);
        Cases.refuses("promise 39, sell: no ride, and a price below", CIRCUIT, x -> x.sell(4, 0, -1), Checks.INDEX);
        Cases.refuses("promise 39, sell: no family, and a price above", CIRCUIT, x -> x.sell(0, 4, 10000), Checks.INDEX);
        Cases.refuses("promise 39, sell: no ride, and the family died out", CIRCUIT, x -> x.sell(4, 3, 5), Checks.INDEX);
        Cases.refuses("promise 39, sell: a price below, and it is of that family", CIRCUIT, x -> x.sell(0, 0, -1), Checks.ARGUMENT);
        Cases.refuses("promise 39, sell: a price above, and the family died out", CIRCUIT, x -> x.sell(0, 3, 10000), Checks.ARGUMENT);
        Cases.refuses("promise 40, owner: no ride, and no index", CIRCUIT, x -> x.owner(4, -1), Checks.INDEX);
        Cases.refuses("promise 40, owner: no ride, and an index behind", CIRCUIT, x -> x.owner(-1, 1), Checks.INDEX);
    }

    private static void fairsAndTime() {
        Supplier<FairCircuit> eight = Checks.world(FairCircuit::new, x -> { for (int i = 0; i < 8; i++) x.fair('f', i, 1, 20, 0); });
        Cases.refuses("promise 5, fair: no charter, and there are 8", eight, x -> x.fair('g', 5, 1, 50, 0), Checks.ARGUMENT);
        Cases.refuses("promise 5, fair: a fixed day, and there are 8", eight, x -> x.fair('f', 351, 1, 50, 0), Checks.ARGUMENT);
        Cases.refuses("promise 5, fair: a movable day, and there are 8", eight, x -> x.fair('m', 201, 1, 50, 0), Checks.ARGUMENT);
        Cases.refuses("promise 5, fair: days, and there are 8", eight, x -> x.fair('f', 5, 10, 50, 0), Checks.ARGUMENT);
        Cases.refuses("promise 5, fair: feet, and there are 8", eight, x -> x.fair('f', 5, 1, 19, 0), Checks.ARGUMENT);
        Cases.refuses("promise 5, fair: a toll, and there are 8", eight, x -> x.fair('f', 5, 1, 50, 100), Checks.ARGUMENT);
        Supplier<FairCircuit> last = Checks.world(CIRCUIT, x -> { for (int i = 0; i < 49; i++) x.pass(8760); x.pass(8759); });
        Cases.refuses("promise 13, pass: too many hours, and 1999 would end", last, x -> x.pass(8761), Checks.ARGUMENT);
        Cases.refuses("promise 13, pass: far too many hours, and 1999 would end", last, x -> x.pass(Integer.MAX_VALUE), Checks.ARGUMENT);
        Cases.refuses("promise 13, pass: no hours, in the last hour of 1999", last, x -> x.pass(0), Checks.ARGUMENT);
        Cases.refuses("promise 35, power: no fair, and a power above", CIRCUIT, x -> x.power(2, 501), Checks.INDEX);
        Cases.refuses("promise 35, power: no fair, and a power below", CIRCUIT, x -> x.power(-1, -1), Checks.INDEX);
    }

    private static void roads() {
        Cases.refuses("promise 9, road: no fair, and both are the same", CIRCUIT, x -> x.road(2, 2, 5, 8), Checks.INDEX);
        Cases.refuses("promise 9, road: no fair, and no miles", CIRCUIT, x -> x.road(2, 0, 0, 8), Checks.INDEX);
        Cases.refuses("promise 9, road: no other, and too high", CIRCUIT, x -> x.road(0, -1, 5, 21), Checks.INDEX);
        Cases.refuses("promise 10, way: no fair, and too low", CIRCUIT, x -> x.way(2, 0, 7), Checks.INDEX);
        Cases.refuses("promise 10, way: no other, and too high", CIRCUIT, x -> x.way(0, -1, 21), Checks.INDEX);
        Cases.refuses("promise 10, way: no fair, and no way", CIRCUIT, x -> x.way(2, 0, 20), Checks.INDEX);
        Cases.refuses("promise 10, way: no other, and no way", CIRCUIT, x -> x.way(0, 2, 20), Checks.INDEX);
        Cases.refuses("promise 10, way: too high, and no way", CIRCUIT, x -> x.way(0, 1, 21), Checks.ARGUMENT);
        Cases.refuses("promise 10, way: too low, and no way", Checks.world(CIRCUIT, x -> x.fair('f', 50, 1, 50, 0)),
            x -> x.way(0, 2, 7), Checks.ARGUMENT);
        Cases.refuses("promise 23, canMake: no ride, and no fair", CIRCUIT, x -> x.canMake(4, 2, 2), Checks.INDEX);
        Cases.refuses("promise 24, tour: no ride, and no index", CIRCUIT, x -> x.tour(4, -1), Checks.INDEX);
        Cases.refuses("promise 24, tour: no ride, and no fair at all", FairCircuit::new, x -> x.tour(0, 0), Checks.INDEX);
    }

    private static void rides() {
        Supplier<FairCircuit> full = Checks.world(CIRCUIT, x -> { for (int i = 4; i < 12; i++) x.ride(0, 'a', 5, 8, 0, 1, 1, 0); });
        Cases.refuses("promise 15, ride: no family, and no kind", CIRCUIT, x -> x.ride(4, 'f', 20, 10, 10, 2, 50, 6), Checks.INDEX);
        Cases.refuses("promise 15, ride: no family, and a frontage", CIRCUIT, x -> x.ride(-1, 'a', 4, 10, 10, 2, 50, 6), Checks.INDEX);
        Cases.refuses("promise 15, ride: no family, and there are 12", full, x -> x.ride(4, 'a', 20, 10, 10, 2, 50, 6), Checks.INDEX);
        int[][] wrong = {{'f', 20, 10, 10, 2, 50, 6}, {'a', 61, 10, 10, 2, 50, 6}, {'a', 20, 21, 10, 2, 50, 6},
            {'a', 20, 10, 51, 2, 50, 6}, {'a', 20, 10, 10, 21, 50, 6}, {'a', 20, 10, 10, 2, 501, 6}, {'a', 20, 10, 10, 2, 50, 13}};
        String[] names = {"no kind", "a frontage", "a height", "a power", "a price", "a room", "a wind"};
        for (int i = 0; i < wrong.length; i++) {
            int[] w = wrong[i];
            Cases.refuses("promise 15, ride: " + names[i] + ", and the family died out", CIRCUIT,
                x -> x.ride(3, (char) w[0], w[1], w[2], w[3], w[4], w[5], w[6]), Checks.ARGUMENT);
            Cases.refuses("promise 15, ride: " + names[i] + ", and there are 12", full,
                x -> x.ride(0, (char) w[0], w[1], w[2], w[3], w[4], w[5], w[6]), Checks.ARGUMENT);
        }
        Cases.refuses("promise 15, ride: the family died out, and there are 12", full,
            x -> x.ride(3, 'a', 20, 10, 10, 2, 50, 6), Checks.UNSUPPORTED);
    }

    private static void parts() {
        Supplier<FairCircuit> six = Checks.world(CIRCUIT, x -> { for (int i = 2; i < 6; i++) x.part(0, 1); });
        Supplier<FairCircuit> sixAndUp = Checks.world(six, x -> {
            x.apply(0, 0);
            x.allot(0);
            x.go(0, 0);
            x.pass(10);
            x.up(0);
        });
        Cases.refuses("promise 16, part: no ride, and no hours", CIRCUIT, x -> x.part(4, 0), Checks.INDEX);
        Cases.refuses("promise 16, part: too many hours, and a part is up", OPENED, x -> x.part(0, 21), Checks.ARGUMENT);
        Cases.refuses("promise 16, part: no hours, and it has 6", six, x -> x.part(0, 0), Checks.ARGUMENT);
        Cases.refuses("promise 16, part: a part is up, and it has 6", sixAndUp, x -> x.part(0, 1), Checks.UNSUPPORTED);
        Cases.refuses("promise 21, up: no ride, and no ground", CIRCUIT, x -> x.up(4), Checks.INDEX);
        Cases.refuses("promise 22, down: no ride, and no part up", CIRCUIT, x -> x.down(4), Checks.INDEX);
    }

    private static void going() {
        Supplier<FairCircuit> onTheWay = Checks.world(CIRCUIT, x -> x.go(2, 0));
        Supplier<FairCircuit> cutOff = Checks.world(OPENED, x -> x.fair('f', 50, 1, 50, 0));
        Cases.refuses("promise 20, go: no fair, and it is busy", onTheWay, x -> x.go(2, 2), Checks.INDEX);
        Cases.refuses("promise 20, go: no fair below, and it is busy", onTheWay, x -> x.go(2, -2), Checks.INDEX);
        Cases.refuses("promise 20, go: no fair, and a part is up", OPENED, x -> x.go(0, 2), Checks.INDEX);
        Cases.refuses("promise 20, go: no ride, and no fair", CIRCUIT, x -> x.go(4, 2), Checks.INDEX);
        Cases.refuses("promise 20, go: it is busy, and there is no way", onTheWay, x -> x.go(2, 1), Checks.UNSUPPORTED);
        Cases.refuses("promise 20, go: a part is up, and there is no way", cutOff, x -> x.go(0, 2), Checks.UNSUPPORTED);
    }

    private static void rights() {
        Supplier<FairCircuit> ten = Checks.world(CIRCUIT, x -> { for (int i = 1; i < 10; i++) x.right(0, 0, i, i + 1); });
        Cases.refuses("promise 25, right: no fair, and no stretch", CIRCUIT, x -> x.right(2, 0, 10, 10), Checks.INDEX);
        Cases.refuses("promise 25, right: no family, and no stretch", CIRCUIT, x -> x.right(0, 4, -1, 10), Checks.INDEX);
        Cases.refuses("promise 25, right: no fair, and the family died out", CIRCUIT, x -> x.right(-1, 3, 0, 10), Checks.INDEX);
        Cases.refuses("promise 25, right: no family, and it overlaps", CIRCUIT, x -> x.right(0, -1, 40, 50), Checks.INDEX);
        Cases.refuses("promise 25, right: no family, and there are 10", ten, x -> x.right(0, 4, 20, 30), Checks.INDEX);
        Cases.refuses("promise 25, right: behind the ground, and it overlaps", CIRCUIT, x -> x.right(0, 0, 80, 101), Checks.ARGUMENT);
        Cases.refuses("promise 25, right: ahead of the ground, and it overlaps", CIRCUIT, x -> x.right(0, 0, -1, 41), Checks.ARGUMENT);
        Cases.refuses("promise 25, right: of no foot, within another", CIRCUIT, x -> x.right(0, 0, 50, 50), Checks.ARGUMENT);
        Cases.refuses("promise 25, right: no stretch, and the family died out", CIRCUIT, x -> x.right(0, 3, 10, 10), Checks.ARGUMENT);
        Cases.refuses("promise 25, right: no stretch, and there are 10", ten, x -> x.right(0, 0, 20, 101), Checks.ARGUMENT);
        Cases.refuses("promise 25, right: it overlaps, and there are 10", ten, x -> x.right(0, 0, 9, 20), Checks.UNSUPPORTED);
        Cases.refuses("promise 25, right: the family died out, and there are 10", ten, x -> x.right(0, 3, 20, 30), Checks.UNSUPPORTED);
        Cases.refuses("promise 26, holder: no foot, and no right", CIRCUIT, x -> x.holder(1, 80), Checks.INDEX);
        Cases.refuses("promise 26, holder: no fair, and no right", CIRCUIT, x -> x.holder(2, 0), Checks.INDEX);
    }

    private static void ground() {
        Supplier<FairCircuit> allotted = Checks.world(CIRCUIT, x -> x.allot(0));
        Supplier<FairCircuit> allottedAndOpen = Checks.world(allotted, x -> x.pass(10 * 24 + 12));
        Cases.refuses("promise 27, apply: no ride, and the ground was allotted", allotted, x -> x.apply(0, 4), Checks.INDEX);
        Cases.refuses("promise 27, apply: no fair, and no ride", CIRCUIT, x -> x.apply(2, 4), Checks.INDEX);
        Cases.refuses("promise 27, apply: it is told, and the ground was allotted", OPENED, x -> x.apply(0, 0), Checks.UNSUPPORTED);
        Cases.refuses("promise 28, allot: no fair, in a year in which all opened", Checks.world(CIRCUIT, x -> x.pass(8759)),
            x -> x.allot(2), Checks.INDEX);
        Cases.refuses("promise 28, allot: it was allotted, and it opened", allottedAndOpen, x -> x.allot(0), Checks.UNSUPPORTED);
        Cases.refuses("promise 29, standing: no foot, and no ride", OPENED, x -> x.standing(0, 100), Checks.INDEX);
        Cases.refuses("promise 29, standing: no fair, and no ride", OPENED, x -> x.standing(2, 0), Checks.INDEX);
        Cases.refuses("promise 30, placeOf: no ride, and no ground", OPENED, x -> x.placeOf(0, 4), Checks.INDEX);
        Cases.refuses("promise 30, placeOf: no fair, and no ground", OPENED, x -> x.placeOf(2, 1), Checks.INDEX);
    }

    private static void crowds() {
        Supplier<FairCircuit> had = Checks.world(OPENED, x -> x.crowd(0, 5, 5));
        Cases.refuses("promise 36, crowd: no fair, and no people", OPENED, x -> x.crowd(2, 0, 5), Checks.INDEX);
        Cases.refuses("promise 36, crowd: no fair, and too much money", OPENED, x -> x.crowd(-1, 5, 100), Checks.INDEX);
        Cases.refuses("promise 36, crowd: no people, and it is not open", OPENED, x -> x.crowd(1, 0, 5), Checks.ARGUMENT);
        Cases.refuses("promise 36, crowd: too many people, and it is not open", OPENED, x -> x.crowd(1, 2001, 5), Checks.ARGUMENT);
        Cases.refuses("promise 36, crowd: no money, and it is not open", OPENED, x -> x.crowd(1, 5, 0), Checks.ARGUMENT);
        Cases.refuses("promise 36, crowd: too much money, and it had its crowd", had, x -> x.crowd(0, 5, 100), Checks.ARGUMENT);
        Cases.refuses("promise 36, crowd: too many people, and it had its crowd", had, x -> x.crowd(0, 2001, 5), Checks.ARGUMENT);
    }

    public static void main(String[] args) {
        families();
        fairsAndTime();
        roads();
        rides();
        parts();
        going();
        rights();
        ground();
        crowds();
        Checks.end("OrderTest");
    }
}
