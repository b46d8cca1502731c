import java.util.function.Supplier;

/** Promises 15 to 22: rides, their parts, and how they go, go up and come down. */
public final class RideTest {
    private static final Supplier<FairCircuit> CIRCUIT = Checks::circuit;
    private static final Supplier<FairCircuit> OPENED = Checks::opened;
    private static final Supplier<FairCircuit> ON_THE_WAY = Checks.world(CIRCUIT, y -> y.go(0, 0));

    private static FairCircuit twelveRides() {
        FairCircuit x = new FairCircuit();
        x.family(true);
        x.family(true);
        x.dies(1, 0);
        for (int i = 0; i < 12; i++) x.ride(0, 'a', 5, 8, 0, 1, 1, 0);
        return x;
    }

    private static void rides() {
        FairCircuit x = new FairCircuit();
        x.family(true);
        Checks.is("15 least", x.ride(0, 'a', 5, 8, 0, 1, 1, 0), 0);
        Checks.is("15 most", x.ride(0, 'e', 60, 20, 50, 20, 500, 12), 1);
        for (int i = 2; i < 12; i++) Checks.is("15 number", x.ride(0, 'c', 5, 8, 0, 1, 1, 0), i);
        Checks.is("18 winter quarters", x.at(11), -1);
        Checks.is("17 none up", x.partsUp(11), 0);
        Checks.is("19 free", x.busy(11), 0);
        Checks.is("37 nothing yet", x.takings(11), 0);
        Checks.is("40 first owner", x.owner(11, 0), 0);
        Checks.refuses("15 no family", RideTest::twelveRides, Checks.INDEX, y -> y.ride(2, 'f', 5, 8, 0, 1, 1, 0));
        Checks.refuses("15 kind", RideTest::twelveRides, Checks.ARGUMENT, y -> y.ride(1, 'f', 5, 8, 0, 1, 1, 0));
        Checks.refuses("15 dead", RideTest::twelveRides, Checks.UNSUPPORTED, y -> y.ride(1, 'a', 5, 8, 0, 1, 1, 0));
        Checks.refuses("15 thirteenth", RideTest::twelveRides, Checks.STATE, y -> y.ride(0, 'a', 5, 8, 0, 1, 1, 0));
    }

    private static void wrongRides() {
        int[][] wrong = {
            {-1, 'a', 20, 10, 10, 2, 50, 6}, {0, 'a' - 1, 20, 10, 10, 2, 50, 6}, {0, 'A', 20, 10, 10, 2, 50, 6},
            {0, 'a', 4, 10, 10, 2, 50, 6}, {0, 'a', 61, 10, 10, 2, 50, 6}, {0, 'a', 20, 7, 10, 2, 50, 6},
            {0, 'a', 20, 21, 10, 2, 50, 6}, {0, 'a', 20, 10, -1, 2, 50, 6}, {0, 'a', 20, 10, 51, 2, 50, 6},
            {0, 'a', 20, 10, 10, 0, 50, 6}, {0, 'a', 20, 10, 10, 21, 50, 6}, {0, 'a', 20, 10, 10, 2, 0, 6},
            {0, 'a', 20, 10, 10, 2, 501, 6}, {0, 'a', 20, 10, 10, 2, 50, -1}, {0, 'a', 20, 10, 10, 2, 50, 13}};
        for (int[] w : wrong) {
            Checks.refuses("15 " + java.util.Arrays.toString(w), CIRCUIT, w[0] < 0 ? Checks.INDEX : Checks.ARGUMENT,
                y -> y.ride(w[0], (char) w[1], w[2], w[3], w[4], w[5], w[6], w[7]));
        }
    }

    private static void parts() {
        FairCircuit x = Checks.circuit();
        Checks.is("16 first", x.part(2, 1), 1);
        for (int i = 2; i < 7; i++) Checks.is("16 number", x.part(2, 20), i);
        x.go(0, 0);
        Checks.is("16 on the way", x.part(0, 9), 3);
        Supplier<FairCircuit> six = Checks.world(CIRCUIT, y -> { for (int i = 0; i < 6; i++) y.part(2, 1); });
        Checks.refuses("16 seventh", six, Checks.STATE, y -> y.part(2, 1));
        Checks.refuses("16 seventh, no hours", six, Checks.ARGUMENT, y -> y.part(2, 0));
        Checks.refuses("16 no ride", CIRCUIT, Checks.INDEX, y -> y.part(4, 0));
        Checks.refuses("16 hours", CIRCUIT, Checks.ARGUMENT, y -> y.part(0, 21));
        Checks.refuses("16 hours, up", OPENED, Checks.ARGUMENT, y -> y.part(0, 0));
        Checks.refuses("16 up", OPENED, Checks.UNSUPPORTED, y -> y.part(0, 1));
        Supplier<FairCircuit> sixUp = Checks.world(CIRCUIT, y -> {
            for (int i = 0; i < 4; i++) y.part(0, 1);
            y.apply(0, 0);
            y.allot(0);
            y.go(0, 0);
            y.pass(10);
            y.up(0);
        });
        Checks.refuses("16 seventh, up", sixUp, Checks.UNSUPPORTED, y -> y.part(0, 1));
    }

    private static void going() {
        FairCircuit x = Checks.circuit();
        Checks.is("20 to winter quarters from there", x.go(0, -1), 0);
        Checks.is("20 from winter quarters", x.go(0, 1), 10);
        Checks.is("18 on the way", x.at(0), 1);
        Checks.is("19 on the way", x.busy(0), 10);
        x.pass(9);
        Checks.is("19 nearly there", x.busy(0), 1);
        x.pass(1);
        Checks.is("19 there", x.busy(0), 0);
        Checks.is("20 to the same", x.go(0, 1), 0);
        Checks.is("19 to the same", x.busy(0), 0);
        Checks.is("20 the way", x.go(0, 0), 3);
        Checks.is("19 the way", x.busy(0), 3);
        x.pass(30);
        Checks.is("19 long there", x.busy(0), 0);
        Checks.is("20 home", x.go(0, -1), 0);
        Checks.is("18 home", x.at(0), -1);
        Checks.is("19 home", x.busy(0), 0);
        Checks.is("20 from winter quarters, high", x.go(2, 0), 10);
        x.pass(8760);
        x.pass(8759 - x.hour());
        x.go(0, 0);
        x.pass(4);
        Checks.is("19 over the end of a year", x.busy(0), 6);
    }

    private static void wrongGoing() {
        Checks.refuses("20 no ride", CIRCUIT, Checks.INDEX, y -> y.go(4, 0));
        Checks.refuses("20 no fair", ON_THE_WAY, Checks.INDEX, y -> y.go(0, 2));
        Checks.refuses("20 no fair below", CIRCUIT, Checks.INDEX, y -> y.go(0, -2));
        Checks.refuses("20 busy", ON_THE_WAY, Checks.UNSUPPORTED, y -> y.go(0, 1));
        Checks.refuses("20 busy, home", ON_THE_WAY, Checks.UNSUPPORTED, y -> y.go(0, -1));
        Checks.refuses("20 up", OPENED, Checks.UNSUPPORTED, y -> y.go(0, 1));
        Checks.refuses("20 one part up", OPENED, Checks.UNSUPPORTED, y -> y.go(3, -1));
        Checks.refuses("20 up, home", OPENED, Checks.UNSUPPORTED, y -> y.go(0, -1));
        Supplier<FairCircuit> high = Checks.world(CIRCUIT, y -> { y.go(2, 0); y.pass(10); });
        Checks.refuses("20 no way", high, Checks.NO_ELEMENT, y -> y.go(2, 1));
        Supplier<FairCircuit> highBusy = Checks.world(CIRCUIT, y -> { y.go(2, 0); y.pass(9); });
        Checks.refuses("20 no way, busy", highBusy, Checks.UNSUPPORTED, y -> y.go(2, 1));
        Checks.refuses("18 no ride", CIRCUIT, Checks.INDEX, y -> y.at(4));
        Checks.refuses("19 no ride", CIRCUIT, Checks.INDEX, y -> y.busy(-1));
        Checks.refuses("17 no ride", CIRCUIT, Checks.INDEX, y -> y.partsUp(4));
    }

    private static FairCircuit arrived() {
        FairCircuit x = Checks.circuit();
        x.apply(0, 0);
        x.apply(0, 2);
        x.allot(0);
        for (int i = 0; i < 4; i++) x.go(i, 0);
        x.pass(10);
        return x;
    }

    private static void upAndDown() {
        FairCircuit x = arrived();
        Checks.is("21 first", x.up(0), 1);
        Checks.is("17 going up", x.partsUp(0), 1);
        Checks.is("19 going up", x.busy(0), 4);
        x.pass(4);
        Checks.is("21 second", x.up(0), 2);
        Checks.is("19 second", x.busy(0), 3);
        x.pass(3);
        Checks.is("22 half, cut", x.down(0), 3);
        Checks.is("17 from the beginning on", x.partsUp(0), 0);
        Checks.is("19 coming down", x.busy(0), 3);
        Checks.is("16 coming down", x.part(0, 2), 3);
        x.pass(3);
        Checks.is("21 from the first again", x.up(0), 1);
        Checks.is("19 first again", x.busy(0), 4);
        x.pass(4);
        Checks.is("22 of those that are up", x.down(0), 2);
        x.pass(2);
        Checks.is("20 down", x.go(0, 1), 3);
        FairCircuit z = Checks.opened();
        Checks.is("22 at once", z.down(3), 0);
        Checks.is("19 at once", z.busy(3), 0);
    }

    private static void wrongUpAndDown() {
        Supplier<FairCircuit> there = RideTest::arrived;
        Supplier<FairCircuit> building = Checks.world(there, y -> y.up(0));
        Checks.refuses("21 no ride", CIRCUIT, Checks.INDEX, y -> y.up(4));
        Checks.refuses("21 winter quarters", CIRCUIT, Checks.UNSUPPORTED, y -> y.up(0));
        Checks.refuses("21 no ground", there, Checks.UNSUPPORTED, y -> y.up(1));
        Checks.refuses("21 no part", there, Checks.UNSUPPORTED, y -> y.up(2));
        Checks.refuses("21 busy", building, Checks.UNSUPPORTED, y -> y.up(0));
        Supplier<FairCircuit> nearlyBuilt = Checks.world(building, y -> y.pass(3));
        Checks.refuses("21 busy for an hour", nearlyBuilt, Checks.UNSUPPORTED, y -> y.up(0));
        Checks.refuses("22 busy for an hour", nearlyBuilt, Checks.UNSUPPORTED, y -> y.down(0));
        Checks.refuses("21 all up", OPENED, Checks.UNSUPPORTED, y -> y.up(0));
        Supplier<FairCircuit> nextYear = Checks.world(building, y -> y.pass(8760));
        Checks.refuses("21 no ground this year", nextYear, Checks.UNSUPPORTED, y -> y.up(0));
        Supplier<FairCircuit> elsewhere = Checks.world(there, y -> { y.go(0, 1); y.pass(3); });
        Checks.refuses("21 ground elsewhere", elsewhere, Checks.UNSUPPORTED, y -> y.up(0));
        Checks.refuses("22 no ride", CIRCUIT, Checks.INDEX, y -> y.down(-1));
        Checks.refuses("22 none up", there, Checks.UNSUPPORTED, y -> y.down(0));
        Checks.refuses("22 busy", building, Checks.UNSUPPORTED, y -> y.down(0));
        FairCircuit late = nextYear.get();
        Checks.is("17 still up next year", late.partsUp(0), 1);
        Checks.is("22 next year", late.down(0), 2);
    }

    public static void main(String[] args) {
        rides();
        wrongRides();
        parts();
        going();
        wrongGoing();
        upAndDown();
        wrongUpAndDown();
        Checks.end("RideTest");
    }
}
