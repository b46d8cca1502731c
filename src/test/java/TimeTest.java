import java.util.function.Supplier;

/** Promises 5 to 8 and 11 to 14: fairs, Easter, time and the wind. */
public final class TimeTest {
    private static final Supplier<FairCircuit> CIRCUIT = Checks::circuit;
    // Easter as a day of the year, from a printed table of the dates.
    private static final int[] EASTERS = {
        98, 83, 102, 94, 107, 99, 90, 110, 95, 87, 106, 91, 111, 103, 87, 107, 99, 84, 103, 95,
        87, 100, 91, 111, 103, 88, 107, 99, 84, 104, 95, 108, 100, 92, 111, 96, 88, 108, 92, 84,
        104, 89, 108, 100, 92, 105, 96, 88, 101, 93};

    private static void fairs() {
        FairCircuit x = new FairCircuit();
        Checks.is("5 least", x.fair('f', 0, 1, 20, 0), 0);
        Checks.is("5 most", x.fair('f', 350, 9, 200, 99), 1);
        Checks.is("5 least movable", x.fair('m', -60, 1, 20, 0), 2);
        Checks.is("5 most movable", x.fair('m', 200, 9, 200, 99), 3);
        Checks.is("7 fixed", x.start(1), 350);
        Checks.is("7 ahead of Easter", x.start(2), 38);
        Checks.is("7 behind Easter", x.start(3), 298);
        for (int i = 4; i < 8; i++) Checks.is("5 number", x.fair('f', i, 1, 50, 0), i);
        Checks.refuses("5 ninth", TimeTest::eightFairs, Checks.STATE, y -> y.fair('f', 0, 1, 20, 0));
        Checks.refuses("5 wrong ninth", TimeTest::eightFairs, Checks.ARGUMENT, y -> y.fair('f', 0, 1, 19, 0));
        Checks.refuses("7 none", CIRCUIT, Checks.INDEX, y -> y.start(2));
        Checks.refuses("7 below", CIRCUIT, Checks.INDEX, y -> y.start(-1));
    }

    private static FairCircuit eightFairs() {
        FairCircuit x = new FairCircuit();
        for (int i = 0; i < 8; i++) x.fair('m', i, 1, 20, 0);
        return x;
    }

    private static void wrongFairs() {
        Object[][] wrong = {
            {'e', 5, 1, 50, 0}, {'F', 5, 1, 50, 0}, {(char) 0, 5, 1, 50, 0},
            {'f', -1, 1, 50, 0}, {'f', 351, 1, 50, 0}, {'m', -61, 1, 50, 0}, {'m', 201, 1, 50, 0},
            {'f', 5, 0, 50, 0}, {'f', 5, 10, 50, 0}, {'f', 5, 1, 19, 0}, {'f', 5, 1, 201, 0},
            {'f', 5, 1, 50, -1}, {'f', 5, 1, 50, 100}};
        for (Object[] w : wrong) {
            Checks.refuses("5 " + java.util.Arrays.toString(w), CIRCUIT, Checks.ARGUMENT,
                y -> y.fair((char) w[0], (int) w[1], (int) w[2], (int) w[3], (int) w[4]));
        }
    }

    private static void easters() {
        FairCircuit x = new FairCircuit();
        x.fair('m', 3, 1, 50, 0);
        for (int year = 1950; year < 2000; year++) {
            Checks.is("6 " + year, x.easter(year), EASTERS[year - 1950]);
            Checks.is("7 in " + year, x.start(0), EASTERS[year - 1950] + 3);
            Checks.is("12 " + year, x.year(), year);
            if (year < 1999) x.pass(8760);
        }
        Checks.refuses("6 ahead", CIRCUIT, Checks.ARGUMENT, y -> y.easter(1949));
        Checks.refuses("6 behind", CIRCUIT, Checks.ARGUMENT, y -> y.easter(2000));
    }

    private static void opening() {
        FairCircuit x = Checks.circuit();
        x.pass(10 * 24 + 11);
        Checks.is("8 ahead", x.isOpen(0), false);
        x.pass(1);
        Checks.is("8 first hour", x.isOpen(0), true);
        Checks.is("8 other", x.isOpen(1), false);
        x.pass(12);
        Checks.is("8 at night", x.isOpen(0), true);
        x.pass(45);
        Checks.is("8 last hour", x.isOpen(0), true);
        Checks.is("11 last hour", x.hour(), 12 * 24 + 21);
        x.pass(1);
        Checks.is("8 end", x.isOpen(0), false);
        x.pass(88 * 24 + 12 - x.hour());
        Checks.is("8 movable", x.isOpen(1), true);
        x.pass(8760 - x.hour());
        x.pass(73 * 24 + 11);
        Checks.is("8 movable ahead, next year", x.isOpen(1), false);
        x.pass(1);
        Checks.is("8 movable, next year", x.isOpen(1), true);
        x.pass(33);
        Checks.is("8 movable last", x.isOpen(1), true);
        x.pass(1);
        Checks.is("8 movable end", x.isOpen(1), false);
        Checks.refuses("8 none", CIRCUIT, Checks.INDEX, y -> y.isOpen(2));
        Checks.refuses("8 below", CIRCUIT, Checks.INDEX, y -> y.isOpen(-1));
    }

    private static void passing() {
        FairCircuit x = new FairCircuit();
        Checks.is("13 one", x.pass(1), 1);
        Checks.is("13 most", x.pass(8760), 1);
        Checks.is("12 next", x.year(), 1951);
        Checks.is("13 last hour", x.pass(8758), 8759);
        Checks.is("12 still", x.year(), 1951);
        Checks.is("13 year's end", x.pass(1), 0);
        Checks.is("12 year's end", x.year(), 1952);
        Checks.is("11 year's end", x.hour(), 0);
        Checks.refuses("13 none", CIRCUIT, Checks.ARGUMENT, y -> y.pass(0));
        Checks.refuses("13 too many", CIRCUIT, Checks.ARGUMENT, y -> y.pass(8761));
        Checks.refuses("13 far too many", CIRCUIT, Checks.ARGUMENT, y -> y.pass(Integer.MAX_VALUE));
        Checks.refuses("13 end", TimeTest::lastYear, Checks.STATE, y -> y.pass(8760));
        Checks.refuses("13 wrong at the end", TimeTest::lastYear, Checks.ARGUMENT, y -> y.pass(8761));
        FairCircuit last = lastYear();
        Checks.is("13 last year", last.pass(8759), 8759);
        Checks.is("13 last year ends", Checks.answer(() -> last.pass(1)), "IllegalStateException");
        Checks.is("11 it does not", last.hour(), 8759);
        Checks.is("12 it does not", last.year(), 1999);
    }

    private static FairCircuit lastYear() {
        FairCircuit x = Checks.circuit();
        for (int i = 0; i < 49; i++) x.pass(8760);
        return x;
    }

    private static void winds() {
        FairCircuit x = new FairCircuit();
        Checks.is("14 first", x.wind(12), 0);
        Checks.is("14 then", x.wind(0), 12);
        Checks.is("14 back", x.wind(5), 0);
        x.pass(8760);
        Checks.is("14 next year", x.wind(1), 5);
        Checks.refuses("14 below", CIRCUIT, Checks.ARGUMENT, y -> y.wind(-1));
        Checks.refuses("14 above", CIRCUIT, Checks.ARGUMENT, y -> y.wind(13));
    }

    public static void main(String[] args) {
        fairs();
        wrongFairs();
        easters();
        opening();
        passing();
        winds();
        Checks.end("TimeTest");
    }
}
