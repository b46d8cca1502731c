import java.util.function.Supplier;

/** Promises 9, 10, 23 and 24: roads, ways, and the fairs that a ride can make. */
public final class RoadTest {
    private static final Supplier<FairCircuit> CIRCUIT = Checks::circuit;

    private static FairCircuit fairsOn(int... days) {
        FairCircuit x = new FairCircuit();
        x.family(true);
        for (int day : days) x.fair('f', day, 1, 50, 0);
        x.ride(0, 'a', 10, 12, 0, 1, 1, 0);
        return x;
    }

    private static void roads() {
        FairCircuit x = fairsOn(1, 2, 3, 4);
        Checks.is("9 new", x.road(0, 1, 1, 8), false);
        Checks.is("9 anew", x.road(0, 1, 200, 20), true);
        Checks.is("9 the other way round", x.road(1, 0, 21, 20), true);
        Checks.is("10 anew", x.way(0, 1, 20), 2);
        Checks.is("9 other", x.road(1, 2, 20, 10), false);
        Checks.is("10 both ways", x.way(1, 0, 20), 2);
        Checks.is("10 whole miles", x.way(1, 2, 10), 1);
        Checks.is("10 sum of miles", x.way(0, 2, 10), 3);
        Checks.is("10 back", x.way(2, 0, 8), 3);
        Checks.is("10 too high", Checks.answer(() -> x.way(0, 2, 11)), "NoSuchElementException");
        Checks.is("10 none", Checks.answer(() -> x.way(0, 3, 8)), "NoSuchElementException");
        Checks.is("10 same", x.way(3, 3, 20), 0);
        x.road(0, 2, 42, 20);
        Checks.is("10 round is shorter", x.way(0, 2, 10), 3);
        Checks.is("10 straight is higher", x.way(0, 2, 11), 3);
        x.road(0, 2, 61, 20);
        Checks.is("10 straight is longer", x.way(0, 2, 10), 3);
        Checks.is("10 longer but higher", x.way(0, 2, 20), 4);
        x.road(2, 3, 1, 20);
        Checks.is("10 one mile", x.way(3, 2, 8), 1);
        Checks.is("10 three roads", x.way(0, 3, 8), 3);
        FairCircuit new1 = fairsOn(1, 2);
        Checks.is("9 not its own", new1.road(0, 1, 1, 8), false);
    }

    private static void wrongRoads() {
        Checks.refuses("9 no fair", CIRCUIT, Checks.INDEX, y -> y.road(2, 0, 1, 8));
        Checks.refuses("9 no other", CIRCUIT, Checks.INDEX, y -> y.road(0, -1, 0, 8));
        Checks.refuses("9 no fair, same", CIRCUIT, Checks.INDEX, y -> y.road(2, 2, 1, 8));
        Checks.refuses("9 same", CIRCUIT, Checks.ARGUMENT, y -> y.road(1, 1, 1, 8));
        Checks.refuses("9 no miles", CIRCUIT, Checks.ARGUMENT, y -> y.road(0, 1, 0, 8));
        Checks.refuses("9 miles", CIRCUIT, Checks.ARGUMENT, y -> y.road(0, 1, 201, 8));
        Checks.refuses("9 low", CIRCUIT, Checks.ARGUMENT, y -> y.road(0, 1, 1, 7));
        Checks.refuses("9 high", CIRCUIT, Checks.ARGUMENT, y -> y.road(0, 1, 1, 21));
        Checks.refuses("10 no fair", CIRCUIT, Checks.INDEX, y -> y.way(2, 0, 7));
        Checks.refuses("10 no other", CIRCUIT, Checks.INDEX, y -> y.way(0, 2, 8));
        Checks.refuses("10 low", CIRCUIT, Checks.ARGUMENT, y -> y.way(0, 1, 7));
        Checks.refuses("10 high, same", CIRCUIT, Checks.ARGUMENT, y -> y.way(0, 0, 21));
        Checks.refuses("10 no way", CIRCUIT, Checks.NO_ELEMENT, y -> y.way(0, 1, 13));
    }

    /** From the end of fair 0 to the opening of fair 1 there are 14 hours. */
    private static void making() {
        FairCircuit x = fairsOn(1, 2);
        Checks.is("23 no way", x.canMake(0, 0, 1), false);
        x.road(0, 1, 40, 12);
        Checks.is("23 no parts", x.canMake(0, 0, 1), true);
        x.part(0, 7);
        Checks.is("23 3 + 2 + 7", x.canMake(0, 0, 1), true);
        x.part(0, 1);
        Checks.is("23 at that hour: 4 + 2 + 8", x.canMake(0, 0, 1), true);
        x.road(0, 1, 41, 12);
        Checks.is("23 too late: 4 + 3 + 8", x.canMake(0, 0, 1), false);
        x.road(0, 1, 1, 12);
        x.part(0, 1);
        Checks.is("23 cut: 4 + 1 + 9", x.canMake(0, 0, 1), true);
        x.road(0, 1, 1, 11);
        Checks.is("23 low bridge", x.canMake(0, 0, 1), false);
        Checks.is("23 back", x.canMake(0, 1, 0), false);
        Checks.is("23 same", x.canMake(0, 0, 0), false);
        FairCircuit y = new FairCircuit();
        y.family(true);
        y.fair('f', 0, 9, 50, 0);
        y.fair('f', 9, 1, 50, 0);
        y.fair('f', 8, 1, 50, 0);
        y.ride(0, 'a', 10, 12, 0, 1, 1, 0);
        y.road(0, 1, 200, 20);
        y.road(0, 2, 1, 20);
        Checks.is("23 from the last day", y.canMake(0, 0, 1), true);
        Checks.is("23 not while it lasts", y.canMake(0, 0, 2), false);
        Checks.refuses("23 no ride", CIRCUIT, Checks.INDEX, z -> z.canMake(4, 0, 1));
        Checks.refuses("23 no fair", CIRCUIT, Checks.INDEX, z -> z.canMake(0, -1, 1));
        Checks.refuses("23 no next", CIRCUIT, Checks.INDEX, z -> z.canMake(0, 0, 2));
    }

    private static void movable() {
        FairCircuit x = new FairCircuit();
        x.family(true);
        x.fair('f', 96, 1, 50, 0);
        x.fair('m', 0, 1, 50, 0);
        x.ride(0, 'a', 10, 12, 0, 1, 1, 0);
        x.road(0, 1, 20, 20);
        Checks.is("23 Easter 98", x.canMake(0, 0, 1), true);
        Checks.is("24 Easter 98", x.tour(0, 1), 1);
        x.pass(8760);
        Checks.is("23 Easter 83", x.canMake(0, 0, 1), false);
        Checks.is("23 Easter 83, back", x.canMake(0, 1, 0), true);
        Checks.is("24 Easter 83", x.tour(0, 1), 0);
    }

    private static String tour(FairCircuit x, int ride) {
        StringBuilder s = new StringBuilder();
        for (int i = 0; i < 9; i++) {
            int index = i;
            Object got = Checks.answer(() -> x.tour(ride, index));
            if (got instanceof String) return s + (got.equals("NoSuchElementException") ? "" : " " + got);
            s.append(got);
        }
        return s.toString();
    }

    private static void tours() {
        Checks.is("24 one", tour(fairsOn(5), 0), "0");
        Checks.is("24 no roads", tour(fairsOn(9, 5, 7), 0), "0");
        FairCircuit x = fairsOn(30, 20, 10, 20, 40, 40, 50, 60);
        for (int i = 0; i < 8; i++) for (int j = 0; j < i; j++) x.road(i, j, 5, 20);
        Checks.is("24 lowest first", tour(x, 0), "210467");
        Checks.is("24 out of order", x.tour(0, 0), 2);
        FairCircuit z = fairsOn(10, 5, 20, 15);
        z.road(0, 2, 5, 20);
        z.road(1, 3, 5, 20);
        Checks.is("24 first has the lowest number", tour(z, 0), "02");
        z.road(3, 2, 5, 20);
        Checks.is("24 longest, ways go by others", tour(z, 0), "1032");
        z.part(0, 20);
        for (int i = 0; i < 5; i++) z.part(0, 20);
        Checks.is("24 too long to build", tour(z, 0), "02");
        Checks.is("24 low ride", tour(Checks.circuit(), 0), "01");
        Checks.is("24 high ride", tour(Checks.circuit(), 2), "0");
        Checks.is("24 busy ride", tour(Checks.opened(), 0), "01");
        FairCircuit none = new FairCircuit();
        none.family(true);
        none.ride(0, 'a', 10, 12, 0, 1, 1, 0);
        Checks.is("24 no fairs", tour(none, 0), "");
        Checks.refuses("24 no ride", CIRCUIT, Checks.INDEX, y -> y.tour(4, 0));
        Checks.refuses("24 no ride, no index", CIRCUIT, Checks.INDEX, y -> y.tour(-1, -1));
        Checks.refuses("24 below", CIRCUIT, Checks.NO_ELEMENT, y -> y.tour(0, -1));
        Checks.refuses("24 behind", CIRCUIT, Checks.NO_ELEMENT, y -> y.tour(0, 2));
        Checks.refuses("24 far behind", CIRCUIT, Checks.NO_ELEMENT, y -> y.tour(0, Integer.MAX_VALUE));
    }

    public static void main(String[] args) {
        roads();
        wrongRoads();
        making();
        movable();
        tours();
        Checks.end("RoadTest");
    }
}
