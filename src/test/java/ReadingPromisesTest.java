import java.io.IOException;
import java.util.function.Supplier;

/** From "Promise 1" to the document's last line: a test for each line, in its turn. */
public final class ReadingPromisesTest extends Reading {
    private static final int YEAR = 8760;
    private static final Supplier<FairCircuit> NEW = FairCircuit::new;
    private static final Supplier<FairCircuit> CIRCUIT = Checks::circuit;
    private static final Supplier<FairCircuit> OPENED = Checks::opened;
    private static final int FAMILIES = 4;
    private static final int FAIRS = 2;
    private static final int RIDES = 4;
    private static final String NONE = "NoSuchElementException";

    private interface Answer { Object of(FairCircuit x); }
    private interface Numbered { Object of(FairCircuit x, int number); }

    private static Object asked(FairCircuit x, Answer call) {
        return Checks.answer(() -> call.of(x));
    }

    private static FairCircuit with(Supplier<FairCircuit> world, Answer... calls) {
        FairCircuit x = world.get();
        for (Answer call : calls) call.of(x);
        return x;
    }

    private static Supplier<FairCircuit> behind(Supplier<FairCircuit> world, Answer... calls) {
        return () -> with(world, calls);
    }

    private static void throwsIndex(String line, int count, Numbered call) {
        says("Throws `IndexOutOfBoundsException` if there is no such " + line);
        noSuch(count, call);
    }

    private static void noSuch(int count, Numbered call) {
        for (int number : new int[] {-1, count, Integer.MIN_VALUE, Integer.MAX_VALUE}) {
            refuses(OPENED, Checks.INDEX, x -> call.of(x, number));
        }
    }

    private static void throwsArgument(int least, int most, Numbered call) {
        says("Throws `IllegalArgumentException` if a number is out of range");
        outside(least, most, call);
    }

    private static void outside(int least, int most, Numbered call) {
        for (int number : new int[] {least - 1, most + 1, Integer.MIN_VALUE, Integer.MAX_VALUE}) {
            refuses(OPENED, Checks.ARGUMENT, x -> call.of(x, number));
        }
        for (int number : new int[] {least, most}) {
            Object got = asked(OPENED.get(), x -> call.of(x, number));
            is(got.equals("IllegalArgumentException"), false);
        }
    }

    // ---- 1 to 4

    private static void families() {
        section("## Promise 1: A new object");
        says("Creates a year without fairs, families and rides.");
        refuses(NEW, Checks.INDEX, x -> x.start(0));
        refuses(NEW, Checks.INDEX, x -> x.money(0));
        refuses(NEW, Checks.INDEX, x -> x.at(0));
        is(new FairCircuit().year(), 1950);
        FairCircuit other = new FairCircuit();
        other.family(true);
        refuses(NEW, Checks.INDEX, x -> x.money(0));

        section("## Promise 2: family");
        says("Adds a family.");
        is(asked(other, x -> x.money(1)), "IndexOutOfBoundsException");
        other.family(false);
        is(other.money(1), 1000);
        says("- `isGuild`: whether it is of the guild");
        is(ReadingTermsTest.firstOf(false, true), 1);
        is(ReadingTermsTest.firstOf(true, false), 0);
        says("Returns its number.");
        for (int i = 2; i < 8; i++) is(other.family(i % 2 == 0), i);
        says("Throws `IllegalStateException` if there are 8");
        Supplier<FairCircuit> eight = behind(CIRCUIT, x -> x.family(true), x -> x.family(true), x -> x.family(true), x -> x.family(true));
        refuses(eight, Checks.STATE, x -> x.family(true));
        refuses(eight, Checks.STATE, x -> x.family(false));

        section("## Promise 3: money");
        says("Returns the money of a family.");
        is(OPENED.get().money(0), 1000 - 40);
        says("- `family`: the family");
        is(OPENED.get().money(2), 2000 - 20);
        says("Returns the money.");
        is(with(OPENED, x -> x.fine(2, 999), x -> x.fine(2, 999)).money(2), -18);
        throwsIndex("family", FAMILIES, FairCircuit::money);

        section("## Promise 4: fine");
        says("Fines a family.");
        is(with(OPENED, x -> x.fine(0, 60)).money(0), 900);
        says("- `family`: the family");
        is(with(OPENED, x -> x.fine(1, 60)).money(0), 960);
        says("- `amount`: 1 to 999");
        is(OPENED.get().fine(1, 1), 999);
        is(OPENED.get().fine(1, 999), 1);
        says("Returns the money then.");
        is(OPENED.get().fine(2, 180), 1800);
        throwsIndex("family", FAMILIES, (x, n) -> x.fine(n, 5));
        throwsArgument(1, 999, (x, n) -> x.fine(0, n));
    }

    // ---- 5 to 8

    private static void fairs() {
        section("## Promise 5: fair");
        says("Adds a fair.");
        is(asked(CIRCUIT.get(), x -> x.start(2)), "IndexOutOfBoundsException");
        is(with(CIRCUIT, x -> x.fair('f', 7, 1, 20, 0)).start(2), 7);
        says("- `charter`: 'f' or 'm'");
        is(with(CIRCUIT, x -> x.fair('m', 7, 1, 20, 0)).start(2), 98 + 7);
        says("- `day`: the day of the year, or how many behind Easter");
        is(with(CIRCUIT, x -> x.fair('f', 350, 1, 20, 0)).start(2), 350);
        is(with(CIRCUIT, x -> x.fair('m', -60, 1, 20, 0)).start(2), 98 - 60);
        is(with(CIRCUIT, x -> x.pass(YEAR), x -> x.fair('m', 200, 1, 20, 0)).start(2), 83 + 200);
        says("- `days`: how many days");
        is(with(NEW, x -> x.fair('f', 0, 3, 20, 0), x -> x.pass(2 * 24 + 21)).isOpen(0), true);
        is(with(NEW, x -> x.fair('f', 0, 2, 20, 0), x -> x.pass(2 * 24 + 21)).isOpen(0), false);
        says("- `ground`: the feet");
        FairCircuit feet = with(CIRCUIT, x -> x.fair('f', 7, 1, 37, 0));
        is(asked(feet, x -> x.holder(2, 36)), NONE);
        is(asked(feet, x -> x.holder(2, 37)), "IndexOutOfBoundsException");
        says("- `toll`: the toll");
        is(with(CIRCUIT, x -> x.fair('f', 7, 1, 37, 9), x -> x.apply(2, 0), x -> x.allot(2)).money(0), 1000 - 9 * 20);
        says("Returns its number.");
        FairCircuit numbers = CIRCUIT.get();
        for (int i = 2; i < 8; i++) is(numbers.fair('f', i, 1, 20, 0), i);
        says("Throws `IllegalArgumentException` if there is no such charter, or a number is out of range");
        for (char charter : new char[] {'e', 'g', 'l', 'n', 'F', 'M', 0, 65535}) {
            refuses(OPENED, Checks.ARGUMENT, x -> x.fair(charter, 7, 1, 20, 0));
        }
        outside(0, 350, (x, n) -> x.fair('f', n, 1, 20, 0));
        outside(-60, 200, (x, n) -> x.fair('m', n, 1, 20, 0));
        outside(1, 9, (x, n) -> x.fair('f', 7, n, 20, 0));
        outside(20, 200, (x, n) -> x.fair('m', 7, 1, n, 0));
        outside(0, 99, (x, n) -> x.fair('f', 7, 1, 20, n));
        says("Throws `IllegalStateException` if there are 8");
        Supplier<FairCircuit> eight = Checks.world(CIRCUIT, x -> { for (int i = 2; i < 8; i++) x.fair('f', i, 1, 20, 0); });
        refuses(eight, Checks.STATE, x -> x.fair('f', 0, 1, 20, 0));
        refuses(eight, Checks.ARGUMENT, x -> x.fair('x', 0, 1, 20, 0));

        section("## Promise 6: easter");
        says("Returns Easter of a year.");
        is(new FairCircuit().easter(1951), 83);
        says("- `year`: 1950 to 1999");
        is(new FairCircuit().easter(1950), 98);
        is(new FairCircuit().easter(1999), 93);
        says("Returns the day of the year.");
        is(new FairCircuit().easter(1962), 90 + 22 - 1);
        throwsArgument(1950, 1999, FairCircuit::easter);

        section("## Promise 7: start");
        says("Returns the first day of a fair in this year.");
        is(CIRCUIT.get().start(1), 88);
        is(with(CIRCUIT, x -> x.pass(YEAR)).start(1), 73);
        says("- `fair`: the fair");
        is(CIRCUIT.get().start(0), 10);
        says("Returns the day.");
        is(with(CIRCUIT, x -> x.pass(YEAR)).start(0), 10);
        throwsIndex("fair", FAIRS, FairCircuit::start);

        section("## Promise 8: isOpen");
        says("Returns whether a fair is open now.");
        is(OPENED.get().isOpen(0), true);
        says("- `fair`: the fair");
        is(OPENED.get().isOpen(1), false);
        says("Returns whether it is.");
        is(with(OPENED, x -> x.pass(2 * 24 + 9)).isOpen(0), true);
        is(with(OPENED, x -> x.pass(2 * 24 + 10)).isOpen(0), false);
        throwsIndex("fair", FAIRS, FairCircuit::isOpen);
    }

    // ---- 9 to 14

    private static void roads() {
        section("## Promise 9: road");
        says("Builds a road, or tells one anew.");
        FairCircuit x = CIRCUIT.get();
        x.fair('f', 30, 1, 20, 0);
        x.road(0, 2, 20, 15);
        is(x.way(0, 2, 15), 1);
        x.road(2, 0, 61, 10);
        is(x.way(0, 2, 10), 4);
        is(asked(x, y -> y.way(0, 2, 11)), NONE);
        says("- `fair`: the fair");
        x.road(2, 1, 10, 9);
        is(x.way(2, 1, 9), 1);
        says("- `other`: another one");
        is(x.way(1, 2, 9), 1);
        says("- `miles`: the miles");
        // 41 by fair 0 and 10 on.
        is(x.way(0, 2, 9), 3);
        says("- `height`: the height, 8 to 20");
        is(asked(x, y -> y.way(1, 2, 11)), NONE);
        is(x.road(1, 2, 10, 8), true);
        is(x.road(1, 2, 10, 20), true);
        says("Returns whether there was one.");
        is(CIRCUIT.get().road(0, 1, 5, 8), true);
        is(CIRCUIT.get().road(1, 0, 5, 8), true);
        FairCircuit three = with(CIRCUIT, y -> y.fair('f', 30, 1, 20, 0));
        is(three.road(1, 2, 5, 8), false);
        is(three.road(0, 2, 5, 8), false);
        is(three.road(2, 1, 5, 8), true);
        throwsIndex("fair, for either", FAIRS, (y, n) -> y.road(n, 0, 5, 8));
        noSuch(FAIRS, (y, n) -> y.road(0, n, 5, 8));
        says("Throws `IllegalArgumentException` if both are the same, or a number is out of range");
        refuses(CIRCUIT, Checks.ARGUMENT, y -> y.road(0, 0, 5, 8));
        refuses(CIRCUIT, Checks.ARGUMENT, y -> y.road(1, 1, 5, 8));
        outside(1, 200, (y, n) -> y.road(0, 1, n, 8));
        outside(8, 20, (y, n) -> y.road(1, 0, 5, n));

        section("## Promise 10: way");
        says("Returns how long a way takes.");
        is(CIRCUIT.get().way(0, 1, 12), 3);
        says("- `fair`: the fair");
        is(three.way(0, 2, 8), 1);
        says("- `other`: another one, or the same");
        is(three.way(0, 1, 9), 3);
        is(three.way(2, 2, 20), 0);
        says("- `height`: the height, 8 to 20");
        is(three.way(0, 1, 8), 1);
        says("Returns the hours.");
        is(with(CIRCUIT, y -> y.road(0, 1, 200, 20)).way(1, 0, 20), 10);
        throwsIndex("fair, for either", FAIRS, (y, n) -> y.way(n, 0, 8));
        noSuch(FAIRS, (y, n) -> y.way(0, n, 8));
        throwsArgument(8, 20, (y, n) -> y.way(0, 1, n));
        outside(8, 20, (y, n) -> y.way(1, 1, n));
        says("Throws `NoSuchElementException` if there is no way");
        refuses(OPENED, Checks.NO_ELEMENT, y -> y.way(0, 1, 13));
        refuses(OPENED, Checks.NO_ELEMENT, y -> y.way(1, 0, 20));
    }

    private static void hours() {
        section("## Promise 11: hour");
        says("Returns the hour of now.");
        is(OPENED.get().hour(), 252);
        says("Returns the hours since the beginning of the year.");
        is(with(OPENED, x -> x.pass(YEAR), x -> x.pass(8)).hour(), 260);

        section("## Promise 12: year");
        says("Returns the year.");
        is(OPENED.get().year(), 1950);
        says("Returns the year.");
        is(with(OPENED, x -> x.pass(YEAR), x -> x.pass(YEAR)).year(), 1952);

        section("## Promise 13: pass");
        says("Lets hours pass.");
        is(with(OPENED, x -> x.pass(9)).hour(), 261);
        says("- `hours`: 1 to 8760");
        is(OPENED.get().pass(1), 253);
        is(OPENED.get().pass(YEAR), 252);
        says("Returns the hour of the year then.");
        is(OPENED.get().pass(YEAR - 253), YEAR - 1);
        is(OPENED.get().pass(YEAR - 252), 0);
        throwsArgument(1, YEAR, FairCircuit::pass);
        says("Throws `IllegalStateException` if the year 1999 would end");
        Supplier<FairCircuit> last = Checks.world(OPENED, x -> { for (int i = 0; i < 49; i++) x.pass(YEAR); });
        is(last.get().year(), 1999);
        is(last.get().pass(YEAR - 253), YEAR - 1);
        refuses(last, Checks.STATE, x -> x.pass(YEAR - 252));
        refuses(last, Checks.STATE, x -> x.pass(YEAR));
        refuses(last, Checks.ARGUMENT, x -> x.pass(YEAR + 1));

        section("## Promise 14: wind");
        says("Tells the wind.");
        is(with(OPENED, x -> x.wind(7)).keeps(0), 'w');
        says("- `force`: 0 to 12");
        is(with(OPENED, x -> x.wind(0)).keeps(0), '-');
        is(with(OPENED, x -> x.wind(12)).keeps(0), 'w');
        says("Returns the wind before.");
        FairCircuit x = OPENED.get();
        is(x.wind(9), 0);
        is(x.wind(9), 9);
        is(x.wind(3), 9);
        throwsArgument(0, 12, FairCircuit::wind);
    }

    // ---- 15 to 22

    /** A ride of family 1 that nothing keeps at fair 0, on the first day; family 0 has none. */
    private static FairCircuit running(int frontage, int height, int power, int price, int room, int wind) {
        FairCircuit x = new FairCircuit();
        x.family(true);
        x.family(true);
        x.fair('f', 5, 2, 100, 1);
        x.fair('f', 9, 1, 100, 0);
        x.road(0, 1, 41, 12);
        x.power(0, 40);
        x.ride(1, 'b', frontage, height, power, price, room, wind);
        x.part(0, 1);
        x.apply(0, 0);
        x.allot(0);
        x.go(0, 0);
        x.pass(10);
        x.up(0);
        x.pass(5 * 24 + 12 - 10);
        x.test(0);
        x.check(0);
        return x;
    }

    private static void rides() {
        section("## Promise 15: ride");
        says("Adds a ride.");
        is(asked(CIRCUIT.get(), x -> x.at(4)), "IndexOutOfBoundsException");
        is(with(CIRCUIT, x -> x.ride(0, 'a', 5, 8, 0, 1, 1, 0)).at(4), -1);
        says("- `family`: the family");
        is(running(20, 12, 10, 3, 5, 4).owner(0, 0), 1);
        says("- `kind`: the kind");
        Answer[] like = {x -> x.ride(0, 'c', 10, 8, 0, 1, 1, 0), x -> x.apply(1, 3), x -> x.apply(1, 4), x -> x.allot(1)};
        is(with(CIRCUIT, like).placeOf(1, 3), 0);
        is(with(CIRCUIT, like).placeOf(1, 4), 40);
        like[0] = x -> x.ride(0, 'd', 10, 8, 0, 1, 1, 0);
        is(with(CIRCUIT, like).placeOf(1, 4), 10);
        says("- `frontage`: the feet");
        is(running(20, 12, 10, 3, 5, 4).filledShare(0), 0.2f);
        is(running(60, 12, 10, 3, 5, 4).standing(0, 59), 0);
        says("- `height`: the height");
        is(running(20, 12, 10, 3, 5, 4).canMake(0, 0, 1), true);
        is(running(20, 13, 10, 3, 5, 4).canMake(0, 0, 1), false);
        says("- `power`: the power");
        is(with(() -> running(20, 12, 10, 3, 5, 4), x -> x.crowd(0, 9, 2)).money(1), 1000 - 20 - 10);
        is(with(() -> running(20, 12, 41, 3, 5, 4), x -> x.crowd(0, 9, 9)).money(1), 1000 - 20);
        says("- `price`: the price");
        is(running(20, 12, 10, 3, 5, 4).crowd(0, 2, 3), 6);
        is(running(20, 12, 10, 20, 5, 4).crowd(0, 2, 20), 40);
        says("- `room`: for how many people there is room");
        is(running(20, 12, 10, 3, 5, 4).crowd(0, 9, 9), 15);
        is(running(20, 12, 10, 3, 500, 4).crowd(0, 501, 9), 1500);
        says("- `wind`: up to which wind it runs");
        is(with(() -> running(20, 12, 10, 3, 5, 4), x -> x.wind(4)).keeps(0), '-');
        is(with(() -> running(20, 12, 10, 3, 5, 4), x -> x.wind(5)).keeps(0), 'w');
        says("Returns its number.");
        FairCircuit numbers = CIRCUIT.get();
        for (int i = RIDES; i < 12; i++) is(numbers.ride(i % 3, 'e', 60, 20, 50, 20, 500, 12), i);
        throwsIndex("family", FAMILIES, (x, n) -> x.ride(n, 'a', 5, 8, 0, 1, 1, 0));
        says("Throws `IllegalArgumentException` if there is no such kind, or a number is out of range");
        for (char kind : new char[] {'a' - 1, 'f', 'A', 'E', 0, 65535}) {
            refuses(OPENED, Checks.ARGUMENT, x -> x.ride(0, kind, 5, 8, 0, 1, 1, 0));
        }
        outside(5, 60, (x, n) -> x.ride(0, 'a', n, 8, 0, 1, 1, 0));
        outside(8, 20, (x, n) -> x.ride(0, 'a', 5, n, 0, 1, 1, 0));
        outside(0, 50, (x, n) -> x.ride(0, 'a', 5, 8, n, 1, 1, 0));
        outside(1, 20, (x, n) -> x.ride(0, 'a', 5, 8, 0, n, 1, 0));
        outside(1, 500, (x, n) -> x.ride(0, 'a', 5, 8, 0, 1, n, 0));
        outside(0, 12, (x, n) -> x.ride(0, 'a', 5, 8, 0, 1, 1, n));
        says("Throws `UnsupportedOperationException` if the family died out");
        refuses(OPENED, Checks.UNSUPPORTED, x -> x.ride(3, 'a', 5, 8, 0, 1, 1, 0));
        says("Throws `IllegalStateException` if there are 12");
        Supplier<FairCircuit> twelve = Checks.world(CIRCUIT, x -> { for (int i = RIDES; i < 12; i++) x.ride(0, 'e', 60, 20, 50, 20, 500, 12); });
        refuses(twelve, Checks.STATE, x -> x.ride(0, 'a', 5, 8, 0, 1, 1, 0));
        refuses(twelve, Checks.UNSUPPORTED, x -> x.ride(3, 'a', 5, 8, 0, 1, 1, 0));
    }

    /** Rides 0 and 2 on their ground at fair 0, ride 2 without a part; ride 1 is there without ground. */
    private static FairCircuit arrived() {
        return with(CIRCUIT, x -> x.apply(0, 0), x -> x.apply(0, 2), x -> x.allot(0),
            x -> x.go(0, 0), x -> x.go(1, 0), x -> x.go(2, 0), x -> x.pass(10));
    }

    private static void parts() {
        Supplier<FairCircuit> arrived = ReadingPromisesTest::arrived;
        section("## Promise 16: part");
        says("Adds a part to a ride that has no part up.");
        FairCircuit x = arrived();
        is(asked(x, y -> y.up(2)), "UnsupportedOperationException");
        x.part(2, 7);
        is(x.up(2), 1);
        is(asked(with(arrived, y -> y.up(0), y -> y.pass(4), y -> y.down(0)), y -> y.part(0, 1)), 3);
        says("- `ride`: the ride");
        is(x.part(0, 1), 3);
        says("- `hours`: the hours");
        is(x.busy(2), 7);
        says("Returns how many parts it has.");
        for (int i = 4; i <= 6; i++) is(x.part(0, 20), i);
        throwsIndex("ride", RIDES, (y, n) -> y.part(n, 1));
        throwsArgument(1, 20, (y, n) -> y.part(1, n));
        says("Throws `UnsupportedOperationException` if a part is up");
        refuses(OPENED, Checks.UNSUPPORTED, y -> y.part(0, 1));
        refuses(behind(arrived, y -> y.up(0)), Checks.UNSUPPORTED, y -> y.part(0, 1));
        says("Throws `IllegalStateException` if it has 6");
        Supplier<FairCircuit> six = Checks.world(CIRCUIT, y -> { for (int i = 0; i < 6; i++) y.part(2, 20); });
        refuses(six, Checks.STATE, y -> y.part(2, 1));

        section("## Promise 17: partsUp");
        says("Returns how many parts of a ride are up.");
        is(OPENED.get().partsUp(0), 2);
        says("- `ride`: the ride");
        is(OPENED.get().partsUp(1), 0);
        is(OPENED.get().partsUp(3), 1);
        says("Returns how many, one that is going up too.");
        is(with(arrived, y -> y.up(0)).partsUp(0), 1);
        is(with(arrived, y -> y.up(0), y -> y.pass(4), y -> y.up(0)).partsUp(0), 2);
        is(with(OPENED, y -> y.down(0)).partsUp(0), 0);
        throwsIndex("ride", RIDES, FairCircuit::partsUp);

        section("## Promise 18: at");
        says("Returns at which fair a ride is, or to which it goes.");
        is(OPENED.get().at(0), 0);
        is(with(CIRCUIT, y -> y.go(0, 1)).at(0), 1);
        says("- `ride`: the ride");
        is(with(CIRCUIT, y -> y.go(0, 1)).at(1), -1);
        says("Returns the fair, -1 in winter quarters.");
        is(with(arrived, y -> y.go(0, 1)).at(0), 1);
        is(with(arrived, y -> y.go(0, -1)).at(0), -1);
        throwsIndex("ride", RIDES, FairCircuit::at);

        section("## Promise 19: busy");
        says("Returns how long a ride is busy still.");
        is(with(CIRCUIT, y -> y.go(0, 1), y -> y.pass(3)).busy(0), 7);
        says("- `ride`: the ride");
        is(with(CIRCUIT, y -> y.go(0, 1), y -> y.pass(3)).busy(1), 0);
        says("Returns the hours.");
        is(with(OPENED, y -> y.down(0)).busy(0), 3);
        is(with(OPENED, y -> y.down(0), y -> y.pass(3)).busy(0), 0);
        is(with(OPENED, y -> y.down(0), y -> y.pass(YEAR)).busy(0), 0);
        throwsIndex("ride", RIDES, FairCircuit::busy);
    }

    private static void going() {
        Supplier<FairCircuit> arrived = ReadingPromisesTest::arrived;
        section("## Promise 20: go");
        says("Lets a ride go to a fair.");
        is(with(arrived, x -> x.go(0, 1)).at(0), 1);
        says("- `ride`: the ride");
        is(with(arrived, x -> x.go(0, 1)).at(1), 0);
        says("- `fair`: the fair, -1 for winter quarters");
        is(with(arrived, x -> x.go(0, -1)).at(0), -1);
        says("Returns the hours that it takes.");
        is(arrived().go(0, 1), 3);
        is(arrived().go(0, 0), 0);
        is(arrived().go(0, -1), 0);
        is(arrived().go(3, 1), 10);
        is(arrived().go(3, -1), 0);
        throwsIndex("ride, or fair but -1", RIDES, (x, n) -> x.go(n, 0));
        for (int fair : new int[] {-2, FAIRS, Integer.MIN_VALUE, Integer.MAX_VALUE}) refuses(OPENED, Checks.INDEX, x -> x.go(1, fair));
        says("Throws `UnsupportedOperationException` if a part is up, or it is busy");
        refuses(OPENED, Checks.UNSUPPORTED, x -> x.go(0, 1));
        refuses(OPENED, Checks.UNSUPPORTED, x -> x.go(0, -1));
        Supplier<FairCircuit> busy = behind(OPENED, x -> x.down(0));
        refuses(busy, Checks.UNSUPPORTED, x -> x.go(0, 1));
        refuses(busy, Checks.UNSUPPORTED, x -> x.go(0, -1));
        says("Throws `NoSuchElementException` if there is no way");
        refuses(arrived, Checks.NO_ELEMENT, x -> x.go(2, 1));

        section("## Promise 21: up");
        says("Puts the next part of a ride up.");
        is(with(arrived, x -> x.up(0)).busy(0), 4);
        is(with(arrived, x -> x.up(0), x -> x.pass(4), x -> x.up(0)).busy(0), 3);
        says("- `ride`: the ride");
        is(with(arrived, x -> x.up(0)).partsUp(2), 0);
        says("Returns how many are up then.");
        is(arrived().up(0), 1);
        is(with(arrived, x -> x.up(0), x -> x.pass(4)).up(0), 2);
        throwsIndex("ride", RIDES, FairCircuit::up);
        says("Throws `UnsupportedOperationException` if it is busy, has no ground this year where it is, or all are up");
        refuses(behind(arrived, x -> x.up(0), x -> x.pass(3)), Checks.UNSUPPORTED, x -> x.up(0));
        refuses(arrived, Checks.UNSUPPORTED, x -> x.up(1));
        refuses(behind(arrived, x -> x.go(0, 1), x -> x.pass(3)), Checks.UNSUPPORTED, x -> x.up(0));
        refuses(behind(arrived, x -> x.pass(YEAR)), Checks.UNSUPPORTED, x -> x.up(0));
        refuses(behind(CIRCUIT, x -> x.apply(0, 0), x -> x.allot(0)), Checks.UNSUPPORTED, x -> x.up(0));
        refuses(OPENED, Checks.UNSUPPORTED, x -> x.up(0));
        refuses(arrived, Checks.UNSUPPORTED, x -> x.up(2));

        section("## Promise 22: down");
        says("Pulls all of a ride down.");
        is(with(OPENED, x -> x.down(0)).partsUp(0), 0);
        says("- `ride`: the ride");
        is(with(OPENED, x -> x.down(0)).partsUp(3), 1);
        says("Returns the hours that it takes.");
        is(OPENED.get().down(0), 3);
        is(OPENED.get().down(3), 0);
        is(with(arrived, x -> x.up(0), x -> x.pass(4)).down(0), 2);
        throwsIndex("ride", RIDES, FairCircuit::down);
        says("Throws `UnsupportedOperationException` if it is busy, or no part is up");
        refuses(behind(arrived, x -> x.up(0), x -> x.pass(3)), Checks.UNSUPPORTED, x -> x.down(0));
        refuses(busy, Checks.UNSUPPORTED, x -> x.down(0));
        refuses(behind(busy, x -> x.pass(3)), Checks.UNSUPPORTED, x -> x.down(0));
        refuses(arrived, Checks.UNSUPPORTED, x -> x.down(0));
    }

    // ---- 23 to 30

    private static void tours() {
        section("## Promise 23: canMake");
        says("Returns whether a ride can make one fair and then another one.");
        is(CIRCUIT.get().canMake(0, 0, 1), true);
        says("- `ride`: the ride");
        is(CIRCUIT.get().canMake(2, 0, 1), false);
        says("- `fair`: the fair");
        is(CIRCUIT.get().canMake(0, 1, 1), false);
        says("- `next`: another one, or the same");
        is(CIRCUIT.get().canMake(0, 0, 0), false);
        says("Returns whether so.");
        is(CIRCUIT.get().canMake(0, 1, 0), false);
        throwsIndex("ride, or fair, for either", RIDES, (x, n) -> x.canMake(n, 0, 1));
        noSuch(FAIRS, (x, n) -> x.canMake(0, n, 1));
        noSuch(FAIRS, (x, n) -> x.canMake(0, 0, n));

        section("## Promise 24: tour");
        says("Returns a fair of the tour of a ride.");
        is(CIRCUIT.get().tour(0, 1), 1);
        says("- `ride`: the ride");
        is(asked(CIRCUIT.get(), x -> x.tour(2, 1)), NONE);
        says("- `index`: the index, from 0");
        is(CIRCUIT.get().tour(0, 0), 0);
        says("Returns the fair.");
        FairCircuit three = with(CIRCUIT, x -> x.fair('f', 5, 1, 20, 0), x -> x.road(2, 0, 5, 20));
        int[] row = {2, 0, 1};
        for (int i = 0; i < 3; i++) {
            int index = i;
            is(asked(three, x -> x.tour(0, index)), row[i]);
        }
        throwsIndex("ride", RIDES, (x, n) -> x.tour(n, 0));
        says("Throws `NoSuchElementException` if there is none");
        for (int index : new int[] {-1, 2, Integer.MIN_VALUE, Integer.MAX_VALUE}) refuses(OPENED, Checks.NO_ELEMENT, x -> x.tour(0, index));
        refuses(behind(NEW, x -> x.family(true), x -> x.ride(0, 'a', 5, 8, 0, 1, 1, 0)), Checks.NO_ELEMENT, x -> x.tour(0, 0));
    }

    private static void rights() {
        section("## Promise 25: right");
        says("Gives a right.");
        is(asked(CIRCUIT.get(), x -> x.holder(1, 40)), NONE);
        is(with(CIRCUIT, x -> x.right(1, 0, 40, 50)).holder(1, 40), 0);
        says("- `fair`: the fair");
        is(asked(with(CIRCUIT, x -> x.right(1, 0, 10, 20)), x -> x.holder(0, 10)), NONE);
        says("- `family`: the family");
        is(with(CIRCUIT, x -> x.right(1, 2, 40, 50)).holder(1, 40), 2);
        says("- `from`: the first foot");
        is(asked(with(CIRCUIT, x -> x.right(1, 0, 40, 50)), x -> x.holder(1, 39)), NONE);
        says("- `to`: the foot behind the last one");
        is(with(CIRCUIT, x -> x.right(1, 0, 40, 50)).holder(1, 49), 0);
        is(asked(with(CIRCUIT, x -> x.right(1, 0, 40, 50)), x -> x.holder(1, 50)), NONE);
        says("Returns how many rights the fair has that are not lost.");
        FairCircuit x = CIRCUIT.get();
        is(x.right(0, 0, 0, 10), 2);
        is(x.right(1, 0, 0, 10), 1);
        is(x.right(0, 2, 90, 100), 3);
        for (int i = 0; i < 3; i++) x.pass(YEAR);
        is(x.right(0, 2, 30, 60), 1);
        throwsIndex("fair or family", FAIRS, (y, n) -> y.right(n, 0, 0, 10));
        noSuch(FAMILIES, (y, n) -> y.right(0, n, 0, 10));
        says("Throws `IllegalArgumentException` if it is no stretch of the ground, of one foot at least");
        int[][] none = {{-1, 5}, {95, 101}, {5, 5}, {6, 5}, {0, 0}, {100, 100}, {100, 101}, {Integer.MIN_VALUE, Integer.MAX_VALUE}};
        for (int[] feet : none) refuses(OPENED, Checks.ARGUMENT, y -> y.right(0, 0, feet[0], feet[1]));
        is(OPENED.get().right(0, 0, 0, 1), 2);
        is(OPENED.get().right(0, 0, 99, 100), 2);
        says("Throws `UnsupportedOperationException` if it overlaps another right that is not lost, or the family died out");
        refuses(OPENED, Checks.UNSUPPORTED, y -> y.right(0, 1, 39, 41));
        refuses(OPENED, Checks.UNSUPPORTED, y -> y.right(0, 0, 89, 90));
        refuses(OPENED, Checks.UNSUPPORTED, y -> y.right(0, 3, 0, 10));
        says("Throws `IllegalStateException` if the fair has 10, lost ones too");
        Supplier<FairCircuit> ten = Checks.world(CIRCUIT, y -> { for (int i = 0; i < 10; i++) y.right(1, 0, i, i + 1); });
        refuses(ten, Checks.STATE, y -> y.right(1, 0, 20, 30));
        refuses(Checks.world(ten, y -> { for (int i = 0; i < 3; i++) y.pass(YEAR); }), Checks.STATE, y -> y.right(1, 0, 0, 30));
        is(ten.get().right(0, 0, 20, 30), 2);

        section("## Promise 26: holder");
        says("Returns whose right a foot is.");
        is(CIRCUIT.get().holder(0, 40), 1);
        says("- `fair`: the fair");
        is(asked(CIRCUIT.get(), y -> y.holder(1, 40)), NONE);
        says("- `foot`: the foot, from 0");
        is(with(CIRCUIT, y -> y.right(0, 2, 0, 1)).holder(0, 0), 2);
        is(CIRCUIT.get().holder(0, 89), 1);
        says("Returns the family.");
        is(with(CIRCUIT, y -> y.dies(1, 0)).holder(0, 40), 0);
        throwsIndex("fair or foot", FAIRS, (y, n) -> y.holder(n, 40));
        noSuch(100, (y, n) -> y.holder(0, n));
        noSuch(80, (y, n) -> y.holder(1, n));
        says("Throws `NoSuchElementException` if it is in no right that is not lost");
        refuses(OPENED, Checks.NO_ELEMENT, y -> y.holder(0, 39));
        refuses(OPENED, Checks.NO_ELEMENT, y -> y.holder(0, 90));
        refuses(Checks.world(OPENED, y -> { for (int i = 0; i < 3; i++) y.pass(YEAR); }), Checks.NO_ELEMENT, y -> y.holder(0, 40));
    }

    private static void allotting() {
        section("## Promise 27: apply");
        says("Tells a ride for a fair.");
        is(with(CIRCUIT, x -> x.apply(0, 3)).allot(0), 10);
        says("- `fair`: the fair");
        is(with(CIRCUIT, x -> x.apply(1, 3)).allot(0), 0);
        says("- `ride`: the ride");
        is(with(CIRCUIT, x -> x.apply(0, 0)).allot(0), 20);
        says("Returns how many are told for it.");
        FairCircuit told = CIRCUIT.get();
        is(told.apply(0, 3), 1);
        is(told.apply(1, 3), 1);
        is(told.apply(0, 0), 2);
        is(told.apply(0, 2), 3);
        throwsIndex("fair or ride", FAIRS, (x, n) -> x.apply(n, 1));
        noSuch(RIDES, (x, n) -> x.apply(1, n));
        says("Throws `UnsupportedOperationException` if it is told for it, or the ground was allotted this year");
        refuses(behind(CIRCUIT, x -> x.apply(0, 3)), Checks.UNSUPPORTED, x -> x.apply(0, 3));
        refuses(OPENED, Checks.UNSUPPORTED, x -> x.apply(0, 0));
        refuses(OPENED, Checks.UNSUPPORTED, x -> x.apply(0, 1));
        is(with(OPENED, x -> x.pass(YEAR)).apply(0, 1), 1);

        section("## Promise 28: allot");
        says("Allots the ground of a fair.");
        is(with(CIRCUIT, x -> x.apply(0, 1), x -> x.allot(0)).placeOf(0, 1), 40);
        says("- `fair`: the fair");
        is(with(CIRCUIT, x -> x.apply(1, 1), x -> x.allot(1)).placeOf(1, 1), 0);
        says("Returns how many feet have rides.");
        is(told.allot(0), 10 + 20 + 30);
        is(told.allot(1), 10);
        throwsIndex("fair", FAIRS, FairCircuit::allot);
        says("Throws `UnsupportedOperationException` if it was allotted this year, or it opened this year");
        refuses(behind(CIRCUIT, x -> x.allot(0)), Checks.UNSUPPORTED, x -> x.allot(0));
        refuses(behind(CIRCUIT, x -> x.pass(252)), Checks.UNSUPPORTED, x -> x.allot(0));
        refuses(behind(CIRCUIT, x -> x.pass(YEAR - 1)), Checks.UNSUPPORTED, x -> x.allot(0));
        is(with(CIRCUIT, x -> x.pass(251)).allot(0), 0);

        section("## Promise 29: standing");
        says("Returns which ride has a foot this year.");
        is(OPENED.get().standing(0, 20), 3);
        says("- `fair`: the fair");
        is(asked(OPENED.get(), x -> x.standing(1, 20)), NONE);
        says("- `foot`: the foot, from 0");
        is(OPENED.get().standing(0, 0), 0);
        is(OPENED.get().standing(0, 19), 0);
        says("Returns the ride.");
        is(OPENED.get().standing(0, 29), 3);
        throwsIndex("fair or foot", FAIRS, (x, n) -> x.standing(n, 0));
        noSuch(100, (x, n) -> x.standing(0, n));
        noSuch(80, (x, n) -> x.standing(1, n));
        says("Throws `NoSuchElementException` if none has");
        refuses(OPENED, Checks.NO_ELEMENT, x -> x.standing(0, 30));
        refuses(behind(CIRCUIT, x -> x.apply(0, 0)), Checks.NO_ELEMENT, x -> x.standing(0, 0));
        refuses(behind(OPENED, x -> x.pass(YEAR)), Checks.NO_ELEMENT, x -> x.standing(0, 0));

        section("## Promise 30: placeOf");
        says("Returns the first foot of a ride this year.");
        is(OPENED.get().placeOf(0, 3), 20);
        says("- `fair`: the fair");
        is(asked(OPENED.get(), x -> x.placeOf(1, 3)), NONE);
        says("- `ride`: the ride");
        is(asked(OPENED.get(), x -> x.placeOf(0, 1)), NONE);
        says("Returns the foot.");
        is(OPENED.get().placeOf(0, 0), 0);
        throwsIndex("fair or ride", FAIRS, (x, n) -> x.placeOf(n, 0));
        noSuch(RIDES, (x, n) -> x.placeOf(0, n));
        says("Throws `NoSuchElementException` if it has no ground there");
        refuses(OPENED, Checks.NO_ELEMENT, x -> x.placeOf(1, 0));
        refuses(behind(CIRCUIT, x -> x.apply(0, 0)), Checks.NO_ELEMENT, x -> x.placeOf(0, 0));
        refuses(behind(OPENED, x -> x.pass(YEAR)), Checks.NO_ELEMENT, x -> x.placeOf(0, 0));
    }

    // ---- 31 to 37

    private static void checks() {
        section("## Promise 31: test");
        says("Tests a ride.");
        Supplier<FairCircuit> untested = ReadingPromisesTest::arrived;
        FairCircuit x = with(untested, y -> y.up(0), y -> y.pass(4), y -> y.up(0), y -> y.pass(3));
        is(x.keeps(0), 't');
        x.test(0);
        is(x.keeps(0), 'c');
        says("- `ride`: the ride");
        is(x.test(1), -1);
        is(x.test(0), 0);
        says("Returns how many days went by since the test before, -1 without one.");
        is(CIRCUIT.get().test(0), -1);
        is(with(CIRCUIT, y -> y.test(0), y -> y.pass(24)).test(0), 1);
        is(with(CIRCUIT, y -> y.pass(23), y -> y.test(0), y -> y.pass(1)).test(0), 1);
        is(with(CIRCUIT, y -> y.test(0), y -> y.pass(YEAR), y -> y.pass(71)).test(0), 367);
        is(with(CIRCUIT, y -> y.test(0), y -> y.pass(48), y -> y.test(0), y -> y.pass(24)).test(0), 1);
        throwsIndex("ride", RIDES, FairCircuit::test);

        section("## Promise 32: check");
        says("Checks a ride for this day.");
        is(with(() -> x, y -> y.check(0)).keeps(0), '-');
        is(with(OPENED, y -> y.pass(11)).keeps(0), '-');
        is(with(OPENED, y -> y.pass(12)).keeps(0), 'c');
        says("- `ride`: the ride");
        is(with(OPENED, y -> y.pass(12), y -> y.check(3)).keeps(0), 'c');
        says("Returns whether it has a defect.");
        is(OPENED.get().check(0), false);
        is(with(OPENED, y -> y.defect(0, true)).check(0), true);
        is(with(OPENED, y -> y.defect(0, true)).check(3), false);
        throwsIndex("ride", RIDES, FairCircuit::check);

        section("## Promise 33: defect");
        says("Tells a defect, or that it was mended.");
        is(with(OPENED, y -> y.defect(0, true)).keeps(0), 'd');
        is(with(OPENED, y -> y.defect(0, true), y -> y.defect(0, false)).keeps(0), '-');
        says("- `ride`: the ride");
        is(with(OPENED, y -> y.defect(3, true)).keeps(0), '-');
        says("- `is`: whether it has one then");
        is(with(OPENED, y -> y.defect(0, false)).check(0), false);
        says("Returns whether it had one.");
        FairCircuit told = OPENED.get();
        is(told.defect(0, true), false);
        is(told.defect(0, true), true);
        is(told.defect(0, false), true);
        is(told.defect(0, false), false);
        throwsIndex("ride", RIDES, (y, n) -> y.defect(n, true));

        section("## Promise 34: keeps");
        says("Returns what keeps a ride from opening.");
        is(OPENED.get().keeps(0), '-');
        says("- `ride`: the ride");
        is(OPENED.get().keeps(1), 'l');
        says("Returns the letter.");
        is(with(OPENED, y -> y.down(0)).keeps(0), 'b');
        is(with(OPENED, y -> y.wind(7)).keeps(0), 'w');
        throwsIndex("ride", RIDES, FairCircuit::keeps);
    }

    private static void crowds() {
        section("## Promise 35: power");
        says("Tells the power of a fair.");
        is(with(OPENED, x -> x.power(0, 9)).crowd(0, 60, 2), 10);
        is(with(OPENED, x -> x.power(0, 10)).crowd(0, 60, 2), 110);
        says("- `fair`: the fair");
        is(with(OPENED, x -> x.power(1, 9)).crowd(0, 60, 2), 110);
        says("- `power`: 0 to 500");
        is(with(OPENED, x -> x.power(0, 0)).power(0, 500), 0);
        is(with(OPENED, x -> x.power(0, 500)).power(0, 0), 500);
        says("Returns the power before.");
        is(OPENED.get().power(0, 3), 100);
        is(OPENED.get().power(1, 3), 0);
        throwsIndex("fair", FAIRS, (x, n) -> x.power(n, 3));
        throwsArgument(0, 500, (x, n) -> x.power(0, n));

        section("## Promise 36: crowd");
        says("Lets a crowd come.");
        is(with(OPENED, x -> x.crowd(0, 60, 2)).takings(0), 100);
        says("- `fair`: the fair");
        Supplier<FairCircuit> both = behind(OPENED, x -> x.fair('f', 10, 1, 20, 0));
        is(both.get().crowd(2, 60, 2), 0);
        says("- `people`: 1 to 2000");
        is(OPENED.get().crowd(0, 1, 99), 3);
        is(OPENED.get().crowd(0, 2000, 99), 110);
        says("- `money`: what each has, 1 to 99");
        is(OPENED.get().crowd(0, 60, 1), 10);
        is(OPENED.get().crowd(0, 1, 2), 2);
        is(OPENED.get().crowd(0, 1, 3), 3);
        says("Returns what all rides take.");
        is(OPENED.get().crowd(0, 52, 2), 100 + 2);
        throwsIndex("fair", FAIRS, (x, n) -> x.crowd(n, 5, 5));
        throwsArgument(1, 2000, (x, n) -> x.crowd(0, n, 5));
        outside(1, 99, (x, n) -> x.crowd(0, 5, n));
        says("Throws `UnsupportedOperationException` if it is not open, or had its crowd on this day");
        refuses(OPENED, Checks.UNSUPPORTED, x -> x.crowd(1, 5, 5));
        refuses(behind(OPENED, x -> x.pass(58)), Checks.UNSUPPORTED, x -> x.crowd(0, 5, 5));
        refuses(behind(OPENED, x -> x.crowd(0, 5, 5), x -> x.pass(11)), Checks.UNSUPPORTED, x -> x.crowd(0, 5, 5));
        is(with(both, x -> x.crowd(2, 60, 2)).crowd(0, 60, 2), 110);
        is(with(OPENED, x -> x.crowd(0, 60, 2), x -> x.pass(12), x -> x.check(0)).crowd(0, 60, 2), 100);

        section("## Promise 37: takings");
        says("Returns what a ride took in all.");
        is(with(OPENED, x -> x.crowd(0, 60, 2), x -> x.pass(12), x -> x.check(0), x -> x.crowd(0, 5, 2)).takings(0), 110);
        says("- `ride`: the ride");
        is(with(OPENED, x -> x.crowd(0, 60, 2)).takings(3), 10);
        says("Returns the takings.");
        is(OPENED.get().takings(0), 0);
        is(with(OPENED, x -> x.crowd(0, 60, 2), x -> x.pass(YEAR), x -> x.sell(0, 1, 5)).takings(0), 100);
        throwsIndex("ride", RIDES, FairCircuit::takings);
    }

    // ---- 38 to 44

    private static void owners() {
        section("## Promise 38: dies");
        says("Lets a family die out.");
        refuses(behind(CIRCUIT, x -> x.dies(1, 0)), Checks.UNSUPPORTED, x -> x.sell(0, 1, 5));
        says("- `family`: the family");
        is(with(CIRCUIT, x -> x.dies(1, 0)).money(1), 0);
        says("- `heir`: another one");
        is(with(CIRCUIT, x -> x.dies(1, 0)).money(0), 2000);
        says("Returns how many rides the heir has then.");
        is(CIRCUIT.get().dies(1, 0), 3);
        is(CIRCUIT.get().dies(0, 2), 2);
        is(with(CIRCUIT, x -> x.dies(1, 0)).dies(0, 2), 4);
        is(with(NEW, x -> x.family(true), x -> x.family(true)).dies(0, 1), 0);
        throwsIndex("family, for either", FAMILIES, (x, n) -> x.dies(n, 0));
        noSuch(FAMILIES, (x, n) -> x.dies(0, n));
        says("Throws `UnsupportedOperationException` if both are the same, or one died out");
        refuses(OPENED, Checks.UNSUPPORTED, x -> x.dies(1, 1));
        refuses(OPENED, Checks.UNSUPPORTED, x -> x.dies(3, 1));
        refuses(OPENED, Checks.UNSUPPORTED, x -> x.dies(1, 3));
        refuses(OPENED, Checks.UNSUPPORTED, x -> x.dies(3, 3));

        section("## Promise 39: sell");
        says("Sells a ride.");
        is(with(CIRCUIT, x -> x.sell(0, 2, 5)).owner(0, 1), 2);
        says("- `ride`: the ride");
        is(asked(with(CIRCUIT, x -> x.sell(0, 2, 5)), x -> x.owner(1, 1)), NONE);
        says("- `family`: who buys it");
        is(with(CIRCUIT, x -> x.sell(0, 2, 5)).money(2), 1995);
        says("- `price`: 0 to 9999");
        is(with(CIRCUIT, x -> x.sell(0, 2, 9999)).money(0), 10999);
        is(with(CIRCUIT, x -> x.sell(0, 2, 0)).money(0), 1000);
        says("Returns how many owners it had till then.");
        is(CIRCUIT.get().sell(0, 2, 5), 1);
        is(with(CIRCUIT, x -> x.sell(0, 2, 5), x -> x.dies(2, 1)).sell(0, 0, 5), 3);
        throwsIndex("ride or family", RIDES, (x, n) -> x.sell(n, 0, 5));
        noSuch(FAMILIES, (x, n) -> x.sell(0, n, 5));
        throwsArgument(0, 9999, (x, n) -> x.sell(0, 1, n));
        says("Throws `UnsupportedOperationException` if it is of that family, or that one died out");
        refuses(OPENED, Checks.UNSUPPORTED, x -> x.sell(0, 0, 5));
        refuses(OPENED, Checks.UNSUPPORTED, x -> x.sell(0, 3, 5));
        refuses(behind(OPENED, x -> x.sell(0, 1, 5)), Checks.UNSUPPORTED, x -> x.sell(0, 1, 5));
        is(with(OPENED, x -> x.sell(0, 1, 5)).sell(0, 0, 5), 2);

        section("## Promise 40: owner");
        says("Returns an owner of a ride.");
        is(with(CIRCUIT, x -> x.sell(1, 0, 5)).owner(1, 1), 0);
        says("- `ride`: the ride");
        is(CIRCUIT.get().owner(3, 0), 2);
        says("- `index`: 0 for the first one");
        is(with(CIRCUIT, x -> x.sell(1, 0, 5)).owner(1, 0), 1);
        says("Returns the family;");
        is(CIRCUIT.get().owner(2, 0), 1);
        says("as a family dies out, its heir comes behind it.");
        is(with(CIRCUIT, x -> x.dies(1, 0)).owner(2, 0), 1);
        is(with(CIRCUIT, x -> x.dies(1, 0)).owner(2, 1), 0);
        is(asked(with(CIRCUIT, x -> x.dies(1, 0)), x -> x.owner(0, 1)), NONE);
        is(asked(with(CIRCUIT, x -> x.sell(0, 1, 5), x -> x.dies(0, 2)), x -> x.owner(0, 2)), NONE);
        throwsIndex("ride", RIDES, (x, n) -> x.owner(n, 0));
        says("Throws `NoSuchElementException` if there is none");
        for (int index : new int[] {-1, 1, Integer.MIN_VALUE, Integer.MAX_VALUE}) refuses(OPENED, Checks.NO_ELEMENT, x -> x.owner(0, index));
    }

    private static void sums() {
        section("## Promise 41: filledShare");
        says("Returns the share of the ground of a fair that has rides this year.");
        is(OPENED.get().filledShare(0), 0.3f);
        is(with(OPENED, x -> x.pass(YEAR)).filledShare(0), 0f);
        says("- `fair`: the fair");
        is(OPENED.get().filledShare(1), 0f);
        says("Returns the feet that have rides, divided by all, both converted to float.");
        is(with(CIRCUIT, x -> x.fair('f', 5, 1, 70, 0), x -> x.apply(2, 2), x -> x.apply(2, 3), x -> x.allot(2)).filledShare(2), 40f / 70f);
        throwsIndex("fair", FAIRS, FairCircuit::filledShare);

        section("## Promise 42: meanTakings");
        says("Returns the mean takings of rides.");
        is(with(OPENED, x -> x.crowd(0, 60, 2)).meanTakings(), 27.5);
        says("Returns the sum divided by how many rides there are, both converted to double.");
        is(with(OPENED, x -> x.crowd(0, 60, 2), x -> x.ride(0, 'a', 5, 8, 0, 1, 1, 0), x -> x.ride(0, 'a', 5, 8, 0, 1, 1, 0)).meanTakings(), 110.0 / 6.0);
        is(CIRCUIT.get().meanTakings(), 0.0);
        says("Throws `ArithmeticException` if there are none");
        refuses(behind(NEW, x -> x.family(true)), ArithmeticException.class, x -> x.meanTakings());

        section("## Promise 43: checksum");
        says("Returns a sum over the circuit.");
        long sum = 7;
        is(new FairCircuit().checksum(), 31 * sum);
        says("Returns 7 at first, then for each family 31 times itself plus the money;");
        is(with(NEW, x -> x.family(true), x -> x.family(true), x -> x.fine(1, 1)).checksum(), ((7L * 31 + 1000) * 31 + 999) * 31);
        FairCircuit x = with(OPENED, y -> y.crowd(0, 60, 2));
        for (int money : new int[] {1000 - 40 + 90, 1000, 2000 - 20 + 10, 0}) sum = 31 * sum + money;
        says("then for each ride 31 times itself plus its takings, then 31 times itself plus how many parts are up;");
        is(with(NEW, y -> y.family(true), y -> y.ride(0, 'a', 5, 8, 0, 1, 1, 0)).checksum(), (7L * 31 + 1000) * 31 * 31 * 31);
        for (int[] ride : new int[][] {{100, 2}, {0, 0}, {0, 0}, {10, 1}}) sum = 31 * (31 * sum + ride[0]) + ride[1];
        says("then for each fair, and each ride with ground there this year, by their first feet, 31 times itself plus"
            + " the ride, then 31 times itself plus the foot;");
        is(with(NEW, y -> y.fair('f', 5, 1, 20, 0)).checksum(), 7L * 31);
        is(guildAhead().checksum(), sumOf(1000, 1000, 0, 0, 0, 0, 1, 0, 0, 15, 0, 0, 0));
        is(with(() -> guildAhead(), y -> y.pass(YEAR)).checksum(), sumOf(1000, 1000, 0, 0, 0, 0, 0));
        for (int[] ride : new int[][] {{0, 0}, {3, 20}}) sum = 31 * (31 * sum + ride[0]) + ride[1];
        says("then 31 times itself plus the hour.");
        is(x.checksum(), 31 * sum + 252);
        is(with(NEW, y -> y.pass(YEAR), y -> y.pass(5)).checksum(), 7L * 31 + 5);
    }

    private static long sumOf(int... numbers) {
        long sum = 7;
        for (int number : numbers) sum = 31 * sum + number;
        return sum;
    }

    /** At fair 0 ride 1, of the guild, is at foot 0 and ride 0 at 15; at fair 1 ride 0 is at foot 0. */
    private static FairCircuit guildAhead() {
        return with(NEW, x -> x.family(false), x -> x.family(true), x -> x.fair('f', 5, 1, 50, 0), x -> x.fair('f', 6, 1, 50, 0),
            x -> x.ride(0, 'a', 10, 8, 0, 1, 1, 0), x -> x.ride(1, 'b', 15, 8, 0, 1, 1, 0),
            x -> x.apply(1, 0), x -> x.allot(1), x -> x.apply(0, 0), x -> x.apply(0, 1), x -> x.allot(0));
    }

    private static void truth() {
        section("## Promise 44: isTrue");
        says("Checks that rides on a ground do not overlap, that likes are 30 feet apart, that each ride is of the family"
            + " last in its book, and that tours can be made.");
        is(OPENED.get().isTrue(), true);
        is(guildAhead().isTrue(), true);
        is(with(CIRCUIT, x -> x.apply(0, 0), x -> x.apply(0, 1), x -> x.allot(0)).isTrue(), true);
        is(with(OPENED, x -> x.sell(0, 2, 5), x -> x.dies(2, 1)).isTrue(), true);
        says("Returns whether all of it holds.");
        is(new FairCircuit().isTrue(), true);
        is(with(OPENED, x -> x.pass(YEAR)).isTrue(), true);

        section("## Not promised");
        free("How the state is held inside the object is free, as are the speed of each call, the text of toString and"
            + " the behaviour of equals and hashCode.");
        free("Use of one object from several threads at once is not promised to be safe.");
        says("Nothing is promised beyond the answers and state changes described above, and nothing about an object after"
            + " its 512th call.");
        // What asks only, changes nothing: the sum is the same behind 500 questions.
        FairCircuit x = OPENED.get();
        long sum = x.checksum();
        for (int i = 0; i < 50; i++) {
            x.money(0);
            x.isOpen(1);
            x.way(0, 1, 12);
            x.canMake(0, 0, 1);
            x.tour(0, 1);
            x.holder(0, 40);
            x.standing(0, 0);
            x.keeps(0);
            x.owner(0, 0);
            x.isTrue();
        }
        is(x.checksum(), sum);
    }

    public static void main(String[] args) throws IOException {
        read(args, "## Promise 1: A new object", "the end");
        families();
        fairs();
        roads();
        hours();
        rides();
        parts();
        going();
        tours();
        rights();
        allotting();
        checks();
        crowds();
        owners();
        sums();
        truth();
        end("ReadingPromisesTest");
    }
}
