import java.util.function.Supplier;

/** Promises 1 to 4 and 38 to 40: a new object, families, deaths, sales and books. */
public final class FamilyTest {
    private static final Supplier<FairCircuit> CIRCUIT = Checks::circuit;

    private static void newObject() {
        FairCircuit x = new FairCircuit();
        Checks.is("1 year", x.year(), 1950);
        Checks.is("1 hour", x.hour(), 0);
        Checks.is("1 family", Checks.answer(() -> x.money(0)), "IndexOutOfBoundsException");
        Checks.is("1 fair", Checks.answer(() -> x.start(0)), "IndexOutOfBoundsException");
        Checks.is("1 ride", Checks.answer(() -> x.at(0)), "IndexOutOfBoundsException");
        Checks.is("1 wind", x.wind(3), 0);
        Checks.is("1 apart", new FairCircuit().wind(0), 0);
    }

    private static FairCircuit eightFamilies() {
        FairCircuit x = new FairCircuit();
        for (int i = 0; i < 8; i++) Checks.is("2 family " + i, x.family(i % 2 == 0), i);
        return x;
    }

    private static void families() {
        FairCircuit x = eightFamilies();
        Checks.is("3 first money", x.money(7), 1000);
        Checks.refuses("2 ninth", () -> { FairCircuit y = new FairCircuit(); for (int i = 0; i < 8; i++) y.family(true); return y; },
            Checks.STATE, y -> y.family(true));
        Checks.refuses("3 behind", CIRCUIT, Checks.INDEX, y -> y.money(4));
        Checks.refuses("3 ahead", CIRCUIT, Checks.INDEX, y -> y.money(-1));
        Checks.is("2 guild first", guildFirst(true, false), 0);
        Checks.is("2 no guild", guildFirst(false, false), 10);
    }

    /** Where the ride that is told last stands. */
    private static int guildFirst(boolean last, boolean first) {
        FairCircuit x = new FairCircuit();
        x.family(first);
        x.family(last);
        x.fair('f', 5, 1, 100, 0);
        x.ride(0, 'a', 10, 8, 0, 1, 1, 0);
        x.ride(1, 'b', 10, 8, 0, 1, 1, 0);
        x.apply(0, 0);
        x.apply(0, 1);
        x.allot(0);
        return x.placeOf(0, 1);
    }

    private static void fines() {
        FairCircuit x = Checks.circuit();
        Checks.is("4 least", x.fine(0, 1), 999);
        Checks.is("4 most", x.fine(0, 999), 0);
        Checks.is("4 below 0", x.fine(0, 5), -5);
        Checks.is("4 stays", x.money(0), -5);
        Checks.is("4 other", x.money(1), 1000);
        Checks.is("4 dead one", x.fine(3, 7), -7);
        Checks.refuses("4 none", CIRCUIT, Checks.ARGUMENT, y -> y.fine(0, 0));
        Checks.refuses("4 too much", CIRCUIT, Checks.ARGUMENT, y -> y.fine(0, 1000));
        Checks.refuses("4 no family", CIRCUIT, Checks.INDEX, y -> y.fine(4, 5));
        Checks.refuses("4 no family comes first", CIRCUIT, Checks.INDEX, y -> y.fine(-1, 0));
    }

    private static void deaths() {
        FairCircuit x = Checks.circuit();
        Checks.is("38 money went over", x.money(2), 2000);
        Checks.is("38 none is left", x.money(3), 0);
        x.fine(1, 300);
        Checks.is("38 rides", x.dies(1, 0), 3);
        Checks.is("38 money", x.money(0), 1700);
        Checks.is("38 money of the dead", x.money(1), 0);
        Checks.is("38 rights", x.holder(0, 40), 0);
        Checks.is("40 heir", x.owner(2, 1), 0);
        Checks.is("40 own ride", Checks.answer(() -> x.owner(0, 1)), "NoSuchElementException");
        Checks.is("38 again", x.dies(0, 2), 4);
        Checks.is("40 second heir", x.owner(2, 2), 2);
        Checks.is("38 true", x.isTrue(), true);
        FairCircuit z = new FairCircuit();
        z.family(true);
        z.family(true);
        z.fine(0, 999);
        z.fine(0, 999);
        Checks.is("38 no rides", z.dies(0, 1), 0);
        Checks.is("38 debts", z.money(1), 2);
    }

    private static void wrongDeaths() {
        Checks.refuses("38 no family", CIRCUIT, Checks.INDEX, y -> y.dies(4, 0));
        Checks.refuses("38 no heir", CIRCUIT, Checks.INDEX, y -> y.dies(0, -1));
        Checks.refuses("38 itself", CIRCUIT, Checks.UNSUPPORTED, y -> y.dies(0, 0));
        Checks.refuses("38 dead", CIRCUIT, Checks.UNSUPPORTED, y -> y.dies(3, 0));
        Checks.refuses("38 dead heir", CIRCUIT, Checks.UNSUPPORTED, y -> y.dies(0, 3));
    }

    private static void sales() {
        FairCircuit x = Checks.circuit();
        Checks.is("39 first", x.sell(0, 1, 9999), 1);
        Checks.is("39 buyer", x.money(1), -8999);
        Checks.is("39 seller", x.money(0), 10999);
        Checks.is("39 for nothing", x.sell(0, 2, 0), 2);
        Checks.is("39 back", x.sell(0, 0, 1), 3);
        Checks.is("39 paid to the last", x.money(2), 2001);
        Checks.is("40 first", x.owner(0, 0), 0);
        Checks.is("40 second", x.owner(0, 1), 1);
        Checks.is("40 third", x.owner(0, 2), 2);
        Checks.is("40 last", x.owner(0, 3), 0);
        Checks.is("39 true", x.isTrue(), true);
        Checks.refuses("39 no ride", CIRCUIT, Checks.INDEX, y -> y.sell(4, 0, 1));
        Checks.refuses("39 no family", CIRCUIT, Checks.INDEX, y -> y.sell(0, 4, -1));
        Checks.refuses("39 price", CIRCUIT, Checks.ARGUMENT, y -> y.sell(0, 1, 10000));
        Checks.refuses("39 below", CIRCUIT, Checks.ARGUMENT, y -> y.sell(0, 0, -1));
        Checks.refuses("39 own", CIRCUIT, Checks.UNSUPPORTED, y -> y.sell(0, 0, 5));
        Checks.refuses("39 dead", CIRCUIT, Checks.UNSUPPORTED, y -> y.sell(0, 3, 5));
        Checks.refuses("40 no ride", CIRCUIT, Checks.INDEX, y -> y.owner(-1, 0));
        Checks.refuses("40 behind", CIRCUIT, Checks.NO_ELEMENT, y -> y.owner(0, 1));
        Checks.refuses("40 ahead", CIRCUIT, Checks.NO_ELEMENT, y -> y.owner(0, -1));
    }

    private static void longBook() {
        FairCircuit x = Checks.circuit();
        int calls = 19;
        int owners = 1;
        for (; calls < 500; calls++) Checks.is("39 sale", x.sell(0, owners % 2, 1), owners++);
        Checks.is("40 late", x.owner(0, owners - 1), (owners - 1) % 2);
        Checks.is("40 behind the last", Checks.answer(() -> x.owner(0, 500)), "NoSuchElementException");
        Checks.is("44 long book", x.isTrue(), true);
    }

    public static void main(String[] args) {
        newObject();
        families();
        fines();
        deaths();
        wrongDeaths();
        sales();
        longBook();
        Checks.end("FamilyTest");
    }
}
