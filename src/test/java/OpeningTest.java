import java.util.function.Supplier;

/** Promises 31 to 37 and 42: tests, checks, defects, what keeps a ride, power, crowds and takings. */
public final class OpeningTest {
    private static final Supplier<FairCircuit> CIRCUIT = Checks::circuit;
    private static final Supplier<FairCircuit> OPENED = Checks::opened;

    private static void tests() {
        FairCircuit x = Checks.circuit();
        Checks.is("31 without one", x.test(0), -1);
        Checks.is("31 same day", x.test(0), 0);
        x.pass(23);
        Checks.is("31 same day, late", x.test(0), 0);
        x.pass(1);
        Checks.is("31 next day", x.test(0), 1);
        x.pass(8760);
        x.pass(8760);
        Checks.is("31 two years", x.test(0), 730);
        Checks.is("31 other ride", x.test(1), -1);
        Checks.refuses("31 no ride", CIRCUIT, Checks.INDEX, y -> y.test(4));
        Checks.refuses("31 no ride below", CIRCUIT, Checks.INDEX, y -> y.test(-1));
    }

    private static void defects() {
        FairCircuit x = Checks.circuit();
        Checks.is("32 none", x.check(0), false);
        Checks.is("33 first", x.defect(0, true), false);
        Checks.is("32 one", x.check(0), true);
        Checks.is("32 other", x.check(1), false);
        Checks.is("33 again", x.defect(0, true), true);
        Checks.is("33 mended", x.defect(0, false), true);
        Checks.is("33 it was", x.defect(0, false), false);
        Checks.is("32 mended", x.check(0), false);
        Checks.refuses("32 no ride", CIRCUIT, Checks.INDEX, y -> y.check(4));
        Checks.refuses("33 no ride", CIRCUIT, Checks.INDEX, y -> y.defect(-1, true));
    }

    private static void keeping() {
        FairCircuit x = Checks.circuit();
        x.apply(0, 0);
        x.apply(0, 2);
        x.allot(0);
        x.wind(12);
        x.defect(0, true);
        Checks.is("34 winter quarters", x.keeps(0), 'l');
        for (int i = 0; i < 3; i++) x.go(i, 0);
        Checks.is("34 on the way", x.keeps(0), 'b');
        x.pass(10);
        Checks.is("34 no ground", x.keeps(1), 'l');
        Checks.is("34 no parts", x.keeps(2), 'b');
        Checks.is("34 none up", x.keeps(0), 'b');
        x.up(0);
        x.pass(4);
        Checks.is("34 one of two up", x.keeps(0), 'b');
        x.up(0);
        x.pass(2);
        Checks.is("34 still going up", x.keeps(0), 'b');
        x.pass(1);
        Checks.is("34 no test", x.keeps(0), 't');
        x.test(0);
        Checks.is("34 defect", x.keeps(0), 'd');
        x.check(0);
        Checks.is("34 defect, checked", x.keeps(0), 'd');
        x.defect(0, false);
        Checks.is("34 wind", x.keeps(0), 'w');
        x.wind(7);
        Checks.is("34 a little wind", x.keeps(0), 'w');
        x.wind(6);
        Checks.is("34 its own wind", x.keeps(0), '-');
        x.pass(24 - x.hour());
        Checks.is("34 next day", x.keeps(0), 'c');
        x.check(0);
        Checks.is("34 checked", x.keeps(0), '-');
        x.down(0);
        Checks.is("34 pulled down", x.keeps(0), 'b');
        Checks.refuses("34 no ride", CIRCUIT, Checks.INDEX, y -> y.keeps(4));
        Checks.refuses("34 no ride below", CIRCUIT, Checks.INDEX, y -> y.keeps(-1));
    }

    /** A ride that stands at its ground in two years, tested on day 5 of the first one. */
    private static void oldTest() {
        FairCircuit x = Checks.circuit();
        x.apply(0, 3);
        x.allot(0);
        x.go(3, 0);
        x.pass(10);
        x.up(3);
        x.pass(5 * 24 + 23 - 10);
        x.test(3);
        x.pass(8760 - x.hour());
        Checks.is("34 no ground this year", x.keeps(3), 'l');
        x.apply(0, 3);
        x.allot(0);
        x.pass(4 * 24);
        x.check(3);
        Checks.is("34 tested 364 days ago", x.keeps(3), '-');
        x.pass(24);
        x.check(3);
        Checks.is("34 tested 365 days ago", x.keeps(3), 't');
        Checks.is("31 365 days", x.test(3), 365);
        Checks.is("34 tested again", x.keeps(3), '-');
        FairCircuit elsewhere = Checks.opened();
        elsewhere.down(3);
        elsewhere.go(3, 1);
        Checks.is("34 ground at another fair", elsewhere.keeps(3), 'l');
    }

    private static void powers() {
        FairCircuit x = Checks.circuit();
        Checks.is("35 first", x.power(1, 500), 0);
        Checks.is("35 then", x.power(1, 0), 500);
        Checks.is("35 other", x.power(0, 7), 100);
        x.pass(8760);
        Checks.is("35 next year", x.power(0, 8), 7);
        Checks.refuses("35 no fair", CIRCUIT, Checks.INDEX, y -> y.power(2, -1));
        Checks.refuses("35 below", CIRCUIT, Checks.ARGUMENT, y -> y.power(0, -1));
        Checks.refuses("35 above", CIRCUIT, Checks.ARGUMENT, y -> y.power(0, 501));
    }

    private static void wrongCrowds() {
        Checks.refuses("36 no fair", OPENED, Checks.INDEX, y -> y.crowd(2, 0, 0));
        Checks.refuses("36 no people", OPENED, Checks.ARGUMENT, y -> y.crowd(0, 0, 5));
        Checks.refuses("36 people", OPENED, Checks.ARGUMENT, y -> y.crowd(0, 2001, 5));
        Checks.refuses("36 no money", OPENED, Checks.ARGUMENT, y -> y.crowd(0, 5, 0));
        Checks.refuses("36 money", OPENED, Checks.ARGUMENT, y -> y.crowd(0, 5, 100));
        Checks.refuses("36 closed, money", OPENED, Checks.ARGUMENT, y -> y.crowd(1, 5, 100));
        Checks.refuses("36 closed", OPENED, Checks.UNSUPPORTED, y -> y.crowd(1, 5, 5));
        Supplier<FairCircuit> twice = Checks.world(OPENED, y -> y.crowd(0, 5, 5));
        Checks.refuses("36 twice", twice, Checks.UNSUPPORTED, y -> y.crowd(0, 5, 5));
        Supplier<FairCircuit> late = Checks.world(OPENED, y -> y.pass(2 * 24 + 10));
        Checks.refuses("36 over", late, Checks.UNSUPPORTED, y -> y.crowd(0, 5, 5));
        Checks.refuses("37 no ride", OPENED, Checks.INDEX, y -> y.takings(4));
    }

    private static void crowds() {
        FairCircuit x = Checks.opened();
        int guild = x.money(0);
        // Ride 0: 50 of 60 pay 2, with power 10. Ride 3: 10 of them pay 1, those who did not pay first.
        Checks.is("36 both run", x.crowd(0, 60, 2), 110);
        Checks.is("37 first", x.takings(0), 100);
        Checks.is("37 second", x.takings(3), 10);
        Checks.is("36 family gets, and pays power", x.money(0), guild + 100 - 10);
        Checks.is("42 mean", x.meanTakings(), 27.5);
        x.pass(11);
        Checks.is("36 in the night, once", Checks.answer(() -> x.crowd(0, 60, 2)), "UnsupportedOperationException");
        x.pass(1);
        Checks.is("36 next day, unchecked", x.crowd(0, 60, 2), 0);
        x.pass(24);
        x.check(0);
        Checks.is("36 one that nothing keeps", x.crowd(0, 3, 99), 6);
        Checks.is("37 in all", x.takings(0), 106);
        FairCircuit poor = Checks.opened();
        int money = poor.money(0);
        Checks.is("36 too poor for the first", poor.crowd(0, 60, 1), 10);
        Checks.is("36 its power is paid still", poor.money(0), money - 10);
        FairCircuit most = Checks.opened();
        Checks.is("36 most people", most.crowd(0, 2000, 99), 110);
        FairCircuit one = Checks.opened();
        Checks.is("36 one", one.crowd(0, 1, 3), 3);
        FairCircuit two = Checks.opened();
        two.crowd(0, 5, 5);
        two.pass(36);
        two.pass(8760 - 24 - 12 + 12);
        Checks.is("36 a year later", two.isOpen(0), true);
        Checks.is("36 a crowd a year later", two.crowd(0, 5, 5), 0);
    }

    /** At fair 0 of day 5 stand rides of the powers told, side by side, that nothing keeps. */
    private static FairCircuit row(int power, int[] powers, int[] prices, int[] rooms) {
        FairCircuit x = new FairCircuit();
        x.family(true);
        x.fair('f', 5, 9, 200, 0);
        x.fair('f', 5, 9, 200, 0);
        x.road(0, 1, 1, 20);
        x.power(0, power);
        x.power(1, power);
        for (int i = 0; i < powers.length; i++) {
            x.ride(0, (char) ('a' + i), 10, 8, powers[i], prices[i], rooms[i], 12);
            x.part(i, 1);
            x.apply(0, i);
            x.apply(1, i);
            x.go(i, 0);
        }
        x.allot(0);
        x.allot(1);
        x.pass(10);
        for (int i = 0; i < powers.length; i++) x.up(i);
        x.pass(5 * 24 + 13 - 10);
        for (int i = 0; i < powers.length; i++) {
            x.test(i);
            x.check(i);
        }
        return x;
    }

    private static String takings(FairCircuit x, int rides) {
        StringBuilder s = new StringBuilder();
        for (int i = 0; i < rides; i++) s.append(' ').append(x.takings(i));
        return s.toString();
    }

    private static void powerInRow() {
        int[] price = {1, 1, 1, 1};
        int[] room = {10, 10, 10, 10};
        int[] powers = {20, 30, 10, 1};
        for (int[] due : new int[][] {{61, 40}, {50, 20}, {49, 30}, {31, 30}, {30, 20}, {20, 10}, {19, 20}, {0, 0}}) {
            FairCircuit x = row(due[0], powers, price, room);
            Checks.is("36 with power " + due[0], x.crowd(0, 10, 9), due[1]);
        }
        FairCircuit x = row(31, powers, price, room);
        x.crowd(0, 10, 9);
        Checks.is("36 left out in between", takings(x, 4), " 10 0 10 10");
        Checks.is("36 power of those that run", x.money(0), 1000 + 30 - 31);
        FairCircuit none = row(0, new int[] {0, 1}, price, room);
        Checks.is("36 no power is needed", none.crowd(0, 10, 9), 10);
    }

    private static void moneyEnds() {
        int[] none = {0, 0, 0, 0};
        FairCircuit x = row(0, none, new int[] {4, 3, 3, 2}, new int[] {5, 7, 9, 500});
        // Ten with 7: 5 pay 4 (5 of 7, 5 of 3); the 5 of 7 and 2 of 3 pay 3 (5 of 4, 3 of 3, 2 of 0);
        // 8 pay 3 (5 of 1, 5 of 0); none has 2.
        Checks.is("36 the richest first", x.crowd(0, 10, 7), 20 + 21 + 24);
        Checks.is("37 the richest first", takings(x, 4), " 20 21 24 0");
        FairCircuit y = row(0, none, new int[] {7, 7, 1, 1}, new int[] {500, 500, 3, 500});
        Checks.is("36 money ends", y.crowd(0, 4, 8), 28 + 3 + 1);
        Checks.is("37 money ends", takings(y, 4), " 28 0 3 1");
        FairCircuit z = row(0, none, new int[] {20, 20, 20, 20}, new int[] {2, 2, 1, 500});
        // Three with 60 each: 2 and 2, then the last pay as they have it.
        Checks.is("36 nobody pays twice at one ride", z.crowd(0, 3, 60), 40 + 40 + 20 + 60);
    }

    /** Ride 0 has room for 10 on a day, and is at both fairs on one day. */
    private static void roomOfADay() {
        FairCircuit x = row(10, new int[] {1}, new int[] {2}, new int[] {10});
        Checks.is("36 first fair", x.crowd(0, 7, 2), 14);
        x.down(0);
        x.go(0, 1);
        x.pass(1);
        x.up(0);
        x.pass(1);
        Checks.is("36 second fair, the room that is left", x.crowd(1, 7, 2), 6);
        Checks.is("37 both", x.takings(0), 20);
        Checks.is("36 power of both", x.money(0), 1000 + 20 - 2);
        x.pass(24);
        x.check(0);
        Checks.is("36 next day, room again", x.crowd(1, 20, 2), 20);
        Checks.is("36 nobody there", x.crowd(0, 20, 2), 0);
    }

    /** The rides run by their first feet, not by their numbers. */
    private static void orderOfFeet() {
        FairCircuit x = new FairCircuit();
        x.family(false);
        x.family(true);
        x.fair('f', 5, 1, 100, 0);
        for (int i = 0; i < 2; i++) {
            x.ride(i, (char) ('a' + i), 10, 8, 5, 4 + i, 500, 12);
            x.part(i, 1);
            x.apply(0, i);
            x.go(i, 0);
        }
        x.allot(0);
        x.pass(10);
        x.up(0);
        x.up(1);
        x.pass(5 * 24 + 12 - 10);
        for (int i = 0; i < 2; i++) {
            x.test(i);
            x.check(i);
        }
        x.power(0, 5);
        Checks.is("36 from the first foot on", x.crowd(0, 3, 9), 15);
        Checks.is("37 from the first foot on", takings(x, 2), " 0 15");
        Checks.is("36 the family of the ride", x.money(1), 1000 + 15 - 5);
    }

    private static void means() {
        Checks.refuses("42 none", () -> { FairCircuit y = new FairCircuit(); y.family(true); return y; },
            ArithmeticException.class, y -> y.meanTakings());
        FairCircuit x = row(0, new int[] {0, 0, 0}, new int[] {1, 1, 1}, new int[] {1, 1, 500});
        Checks.is("42 nothing yet", x.meanTakings(), 0.0);
        x.crowd(0, 5, 1);
        Checks.is("42 a third", x.meanTakings(), 5.0 / 3.0);
    }

    public static void main(String[] args) {
        tests();
        defects();
        keeping();
        oldTest();
        powers();
        wrongCrowds();
        crowds();
        powerInRow();
        moneyEnds();
        roomOfADay();
        orderOfFeet();
        means();
        Checks.end("OpeningTest");
    }
}
