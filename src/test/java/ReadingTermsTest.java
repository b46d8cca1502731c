import java.io.IOException;
import java.util.function.Supplier;

/** From the document's first line to the end of "Terms": a test for each sentence, in its turn. */
public final class ReadingTermsTest extends Reading {
    private static final int YEAR = 8760;
    private static final String NONE = "NoSuchElementException";

    private interface Answer { Object of(FairCircuit x); }

    private static Object asked(FairCircuit x, Answer call) {
        return Checks.answer(() -> call.of(x));
    }

    private static FairCircuit in(int year) {
        FairCircuit x = new FairCircuit();
        for (int y = 1950; y < year; y++) x.pass(YEAR);
        return x;
    }

    // ---- what it is

    private static void whatItIs() {
        section("# FairCircuit");
        section("## What it is");
        says("A fair that moves from town to town: charters with fixed days and movable feasts, roads with low"
            + " bridges, rides that go up part by part, ground that is let by the foot and held by right, a guild"
            + " that comes ahead of outsiders, likes that may not stand near each other, tests, checks and defects,"
            + " crowds whose money ends, deaths and sales.");
        FairCircuit x = town();
        season(x);
        is(x.dies(1, 0), 2);
        is(x.money(0), 1000 + 1056);
        is(x.family(true), 2);
        is(x.sell(1, 2, 100), 1);
        is(x.money(2), 900);
        says("An object is used for at most 512 calls after it has been made;");
        longLives();
        says("what later calls answer is free.");
        FairCircuit old = soldFor(512);
        for (int call = 0; call < 2000; call++) {
            int buyer = call % 2;
            // Whatever it answers, the machine does not throw.
            is(asked(old, y -> y.sell(0, buyer, 0)).toString().contains(" of "), false);
        }
    }

    /** A fixed and a movable fair, a low bridge, an outsider with a right and the guild without one. */
    private static FairCircuit town() {
        FairCircuit x = new FairCircuit();
        is(x.family(true), 0);
        is(x.family(false), 1);
        is(x.fair('f', 2, 3, 100, 2), 0);
        is(x.fair('m', -60, 1, 80, 1), 1);
        is(x.start(1), 38);
        is(x.road(0, 1, 41, 9), false);
        is(x.way(0, 1, 9), 3);
        is(asked(x, y -> y.way(0, 1, 10)), NONE);
        is(x.ride(1, 'a', 20, 9, 10, 2, 50, 6), 0);
        is(x.ride(0, 'a', 30, 10, 10, 3, 50, 6), 1);
        is(x.part(0, 4), 1);
        is(x.part(0, 3), 2);
        is(x.right(0, 1, 40, 90), 1);
        is(x.apply(0, 1), 1);
        is(x.apply(0, 0), 2);
        return x;
    }

    private static void season(FairCircuit x) {
        is(x.allot(0), 20);
        is(x.placeOf(0, 0), 40);
        is(asked(x, y -> y.placeOf(0, 1)), NONE);
        is(x.money(1), 960);
        is(x.go(0, 0), 10);
        x.pass(10);
        is(x.up(0), 1);
        x.pass(4);
        is(x.up(0), 2);
        is(x.pass(2 * 24 + 12 - 14), 60);
        is(x.test(0), -1);
        is(x.defect(0, true), false);
        is(x.check(0), true);
        is(x.keeps(0), 'd');
        is(x.defect(0, false), true);
        is(x.power(0, 10), 0);
        is(x.crowd(0, 53, 3), 100);
        x.pass(24);
        is(x.check(0), false);
        is(x.crowd(0, 8, 3), 16);
        is(x.money(1), 960 + 100 - 10 + 16 - 10);
    }

    /** Two families, a ride, and it is sold from one to the other up to this call. */
    private static FairCircuit soldFor(int calls) {
        FairCircuit x = new FairCircuit();
        x.family(true);
        x.family(true);
        x.ride(0, 'a', 5, 8, 0, 1, 1, 0);
        for (int call = 4, sale = 1; call <= calls; call++, sale++) is(x.sell(0, sale % 2, 1), sale);
        return x;
    }

    private static void longLives() {
        is(soldFor(511).owner(0, 508), 0);
        is(soldFor(511).owner(0, 507), 1);
        is(asked(soldFor(511), y -> y.owner(0, 509)), NONE);
        is(soldFor(511).isTrue(), true);
        is(soldFor(511).money(0), 1000);
        is(soldFor(510).money(1), 1000 - 1);
        FairCircuit fined = new FairCircuit();
        fined.family(false);
        for (int call = 2; call < 512; call++) fined.fine(0, 999);
        is(fined.fine(0, 999), 1000 - 511 * 999);
        FairCircuit refused = new FairCircuit();
        for (int call = 1; call < 512; call++) asked(refused, y -> y.money(0));
        is(refused.family(true), 0);
        FairCircuit hours = new FairCircuit();
        for (int call = 1; call < 512; call++) hours.pass(17);
        is(hours.pass(17), 512 * 17);
    }

    // ---- time

    private static void time() {
        section("## The public face");
        section("## Terms");
        says("Time. It is counted in hours, 0 at first, of the year 1950;");
        FairCircuit x = new FairCircuit();
        is(x.hour(), 0);
        is(x.year(), 1950);
        is(x.pass(1), 1);
        is(x.hour(), 1);
        says("a year has 365 days of 24 hours, numbered from 0;");
        is(x.pass(365 * 24 - 2), 365 * 24 - 1);
        is(x.year(), 1950);
        is(x.pass(1), 0);
        is(x.year(), 1951);
        // 1952 would have a day more in the common calendar.
        FairCircuit leap = in(1952);
        is(leap.pass(365 * 24 - 1), 365 * 24 - 1);
        is(leap.pass(1), 0);
        is(leap.year(), 1953);
        FairCircuit days = new FairCircuit();
        days.fair('f', 0, 1, 20, 0);
        is(days.start(0), 0);
        days.pass(12);
        is(days.isOpen(0), true);
        says("the last year is 1999, which does not end.");
        FairCircuit last = in(1999);
        is(last.year(), 1999);
        is(last.pass(YEAR - 1), YEAR - 1);
        is(asked(last, y -> y.pass(1)), "IllegalStateException");
        is(last.hour(), YEAR - 1);
        is(last.year(), 1999);
    }

    private static void easter() {
        says("Easter is that of the common calendar: with the year y, a the rest of y by 19, b and c the quotient"
            + " and rest of y by 100, d and e those of b by 4, f the quotient of b and 8 by 25, g that of b less f,"
            + " and 1, by 3, h the rest of 19 times a, and b, less d, less g, and 15, by 30, i and k the quotient"
            + " and rest of c by 4, l the rest of 32, 2 times e, 2 times i, less h, less k, by 7, m the quotient of"
            + " a, 11 times h and 22 times l, by 451: with n as h, l, less 7 times m, and 114, the month is n"
            + " divided by 31, cut, and its day the rest, and 1.");
        FairCircuit x = new FairCircuit();
        for (int year = 1950; year < 2000; year++) is(x.easter(year), easterAsWritten(year));
        says("As a day of the year it is 59, and the day, less 1, in March, 90 and the day, less 1, in April.");
        is(x.easter(1989), 59 + 26 - 1);
        is(x.easter(1991), 59 + 31 - 1);
        is(x.easter(1956), 90 + 1 - 1);
        is(x.easter(1977), 90 + 10 - 1);
        is(x.easter(1981), 90 + 19 - 1);
    }

    private static int easterAsWritten(int y) {
        int a = y % 19;
        int b = y / 100;
        int c = y % 100;
        int d = b / 4;
        int e = b % 4;
        int f = (b + 8) / 25;
        int g = (b - f + 1) / 3;
        int h = (19 * a + b - d - g + 15) % 30;
        int i = c / 4;
        int k = c % 4;
        int l = (32 + 2 * e + 2 * i - h - k) % 7;
        int m = (a + 11 * h + 22 * l) / 451;
        int n = h + l - 7 * m + 114;
        int month = n / 31;
        int day = n % 31 + 1;
        return month == 3 ? 59 + day - 1 : 90 + day - 1;
    }

    // ---- fairs and roads

    private static void fairs() {
        says("Fairs. At most 8 are numbered from 0, each with a charter, 'f' from a day of the year, 0 to 350, or"
            + " 'm' from so many days behind Easter, -60 to 200;");
        int[][] charters = {{'f', 0, 0}, {'f', 350, 350}, {'m', -60, 38}, {'m', 200, 298}, {'m', 0, 98}};
        FairCircuit x = new FairCircuit();
        for (int i = 0; i < 8; i++) {
            int[] of = charters[i % charters.length];
            is(x.fair((char) of[0], of[1], 1, 20, 0), i);
            is(x.start(i), of[2]);
        }
        is(asked(x, y -> y.fair('f', 0, 1, 20, 0)), "IllegalStateException");
        for (int[] wrong : new int[][] {{'f', -1}, {'f', 351}, {'m', -61}, {'m', 201}, {'e', 5}, {'g', 5}, {'l', 5}, {'n', 5}}) {
            refuses(FairCircuit::new, Checks.ARGUMENT, y -> y.fair((char) wrong[0], wrong[1], 1, 20, 0));
        }
        says("with 1 to 9 days, a ground of 20 to 200 feet, and a toll of 0 to 99 for a foot.");
        for (int[] right : new int[][] {{1, 20, 0}, {9, 200, 99}}) {
            is(asked(new FairCircuit(), y -> y.fair('f', 5, right[0], right[1], right[2])), 0);
        }
        for (int[] wrong : new int[][] {{0, 50, 5}, {10, 50, 5}, {5, 19, 5}, {5, 201, 5}, {5, 50, -1}, {5, 50, 100}}) {
            refuses(FairCircuit::new, Checks.ARGUMENT, y -> y.fair('f', 5, wrong[0], wrong[1], wrong[2]));
        }
        says("It is open from the hour 12 of its first day up to the hour 22 of its last one, that hour not included.");
        FairCircuit open = new FairCircuit();
        open.fair('f', 3, 2, 50, 0);
        for (int hour = 0; hour < 10 * 24; hour++) {
            is(open.isOpen(0), hour >= 3 * 24 + 12 && hour < 4 * 24 + 22);
            open.pass(1);
        }
    }

    /** One family with one ride of height 12, without a part, and fairs of a day. */
    private static FairCircuit fairsOn(int... days) {
        FairCircuit x = new FairCircuit();
        x.family(true);
        for (int day : days) x.fair('f', day, 1, 50, 0);
        x.ride(0, 'a', 10, 12, 0, 1, 1, 0);
        return x;
    }

    private static void roads() {
        says("Roads. A road joins two fairs, with miles, 1 to 200, and a height.");
        FairCircuit x = fairsOn(1, 2, 3, 4);
        is(x.road(2, 1, 1, 15), false);
        is(x.road(1, 2, 1, 15), true);
        is(x.way(1, 2, 15), 1);
        is(x.way(2, 1, 15), 1);
        is(asked(x, y -> y.way(2, 1, 16)), NONE);
        is(x.road(0, 3, 200, 8), false);
        is(x.way(3, 0, 8), 10);
        refuses(() -> fairsOn(1, 2), Checks.ARGUMENT, y -> y.road(0, 1, 0, 8));
        refuses(() -> fairsOn(1, 2), Checks.ARGUMENT, y -> y.road(0, 1, 201, 8));
        refuses(() -> fairsOn(1, 2), Checks.ARGUMENT, y -> y.road(1, 1, 5, 8));
        says("The way from one to another one, for a height, is that of the fewest miles by roads whose heights are"
            + " at least that;");
        FairCircuit w = fairsOn(1, 2, 3, 4);
        w.road(0, 1, 30, 14);
        w.road(1, 2, 30, 13);
        w.road(0, 2, 100, 20);
        w.road(2, 3, 40, 12);
        is(w.way(0, 2, 13), 3);
        is(w.way(0, 2, 14), 5);
        is(w.way(0, 3, 12), 5);
        is(asked(w, y -> y.way(0, 1, 15)), NONE);
        is(asked(w, y -> y.way(0, 3, 13)), NONE);
        FairCircuit round = fairsOn(1, 2, 3, 4);
        for (int other = 1; other < 4; other++) round.road(other, 0, 20 * other, 20);
        round.road(1, 3, 100, 20);
        // By fair 0, and to it: 20 and 60 miles are fewer than 100.
        is(round.way(1, 3, 20), 4);
        is(round.way(3, 2, 20), 5);
        round.road(3, 0, 200, 20);
        is(round.way(3, 0, 20), 6);
        says("it takes 1 hour for each 20 miles, rounded up, none to the same fair.");
        for (int miles = 1; miles <= 200; miles++) {
            x.road(0, 1, miles, 20);
            is(x.way(0, 1, 20), miles / 20 + (miles % 20 > 0 ? 1 : 0));
        }
        // The miles of the whole way are rounded, not those of each road.
        FairCircuit whole = fairsOn(1, 2, 3);
        whole.road(0, 1, 10, 20);
        whole.road(1, 2, 10, 20);
        is(whole.way(0, 2, 20), 1);
        is(whole.way(1, 1, 20), 0);
    }

    // ---- families and rides

    private static void families() {
        says("Families. At most 8 are numbered from 0, of the guild or not, each with money, 1000 at first, perhaps"
            + " below 0.");
        FairCircuit x = new FairCircuit();
        for (int i = 0; i < 8; i++) {
            is(x.family(i % 3 == 0), i);
            is(x.money(i), 1000);
        }
        is(asked(x, y -> y.family(true)), "IllegalStateException");
        x.fine(5, 999);
        is(x.fine(5, 999), -998);
        is(x.money(5), -998);
        // Of the guild or not: who is not told first stands first if he alone is of the guild.
        is(firstOf(true, false), 0);
        is(firstOf(false, true), 1);
        is(firstOf(true, true), 0);
        is(firstOf(false, false), 0);
    }

    static int firstOf(boolean isFirstGuild, boolean isSecondGuild) {
        FairCircuit x = new FairCircuit();
        x.fair('f', 5, 1, 50, 0);
        x.family(isFirstGuild);
        x.family(isSecondGuild);
        stand(x, 0, 'a', 10);
        stand(x, 1, 'b', 10);
        x.allot(0);
        return x.standing(0, 0);
    }

    private static void rides() {
        says("Rides. At most 12 are numbered from 0, each of a family and of a kind, 'a' to 'e', with a frontage of"
            + " 5 to 60 feet, a height, 8 to 20, a power, 0 to 50, a price, 1 to 20, room for 1 to 500 people in a"
            + " day, and a wind up to which it runs, 0 to 12.");
        FairCircuit x = new FairCircuit();
        x.family(true);
        for (int i = 0; i < 12; i++) {
            is(i % 2 == 0 ? x.ride(0, 'a', 5, 8, 0, 1, 1, 0) : x.ride(0, 'e', 60, 20, 50, 20, 500, 12), i);
            is(x.owner(i, 0), 0);
        }
        is(asked(x, y -> y.ride(0, 'a', 5, 8, 0, 1, 1, 0)), "IllegalStateException");
        int[] good = {'c', 20, 10, 10, 2, 50, 6};
        int[][] outside = {{'a' - 1, 'f'}, {4, 61}, {7, 21}, {-1, 51}, {0, 21}, {0, 501}, {-1, 13}};
        Supplier<FairCircuit> world = () -> fairsOn();
        for (int of = 0; of < good.length; of++) {
            for (int number : outside[of]) {
                int[] n = good.clone();
                n[of] = number;
                refuses(world, Checks.ARGUMENT, y -> y.ride(0, (char) n[0], n[1], n[2], n[3], n[4], n[5], n[6]));
            }
        }
        // Two fairs on one day: the second crowd finds the room that is left on it.
        FairCircuit day = ready(9, new int[] {0, 2, 10});
        is(day.crowd(0, 7, 5), 14);
        day.down(0);
        is(day.go(0, 1), 1);
        day.pass(1);
        day.up(0);
        day.pass(1);
        is(day.crowd(1, 7, 5), 6);
        day.pass(24);
        day.check(0);
        is(day.crowd(1, 70, 5), 20);
    }

    private static void parts() {
        says("It has at most 6 parts, each with the hours that it takes to go up, 1 to 20, in order;");
        FairCircuit x = there();
        int[] hours = {5, 1, 20, 3, 2, 4};
        for (int i = 0; i < 6; i++) is(x.part(0, hours[i]), i + 1);
        is(asked(x, y -> y.part(0, 1)), "IllegalStateException");
        refuses(ReadingTermsTest::there, Checks.ARGUMENT, y -> y.part(0, 0));
        refuses(ReadingTermsTest::there, Checks.ARGUMENT, y -> y.part(0, 21));
        for (int i = 0; i < 6; i++) {
            is(x.up(0), i + 1);
            is(x.busy(0), hours[i]);
            x.pass(hours[i]);
        }
        says("to pull all down takes half of the hours of those that are up, cut, and none is up from its beginning on.");
        is(x.down(0), (5 + 1 + 20 + 3 + 2 + 4) / 2);
        is(x.partsUp(0), 0);
        is(x.busy(0), 17);
        x.pass(17);
        // The first alone, then the first two: 2 and a half, and 3.
        x.up(0);
        x.pass(5);
        is(x.down(0), 2);
        x.pass(2);
        for (int i = 0; i < 2; i++) {
            x.up(0);
            x.pass(hours[i]);
        }
        is(x.down(0), 3);
        says("At first a ride is in winter quarters.");
        is(fairsOn(5).at(0), -1);
        is(fairsOn(5).go(0, 0), 10);
    }

    /** Ride 0, without a part, on its ground at fair 0; fair 1 is 41 miles away. */
    private static FairCircuit there() {
        FairCircuit x = fairsOn(20, 25);
        x.road(0, 1, 41, 12);
        x.apply(0, 0);
        x.allot(0);
        x.go(0, 0);
        x.pass(10);
        return x;
    }

    private static void going() {
        Supplier<FairCircuit> partUp = Checks.world(ReadingTermsTest::there, y -> { y.part(0, 3); y.up(0); y.pass(3); });
        Supplier<FairCircuit> onTheWay = Checks.world(ReadingTermsTest::there, y -> y.go(0, 1));
        Supplier<FairCircuit> twoParts = Checks.world(ReadingTermsTest::there, y -> { y.part(0, 3); y.part(0, 2); });
        says("Going. A ride that has no part up and is not busy can go to a fair: from winter quarters it takes 10"
            + " hours, else the way;");
        is(fairsOn(20, 25).go(0, 1), 10);
        is(there().go(0, 1), 3);
        is(there().go(0, 0), 0);
        refuses(partUp, Checks.UNSUPPORTED, y -> y.go(0, 1));
        refuses(onTheWay, Checks.UNSUPPORTED, y -> y.go(0, 0));
        refuses(() -> fairsOn(20, 25), Checks.INDEX, y -> y.go(0, 2));
        says("it is busy then until it is there.");
        FairCircuit x = onTheWay.get();
        is(x.busy(0), 3);
        is(x.at(0), 1);
        x.pass(2);
        is(x.busy(0), 1);
        refuses(Checks.world(onTheWay, y -> y.pass(2)), Checks.UNSUPPORTED, y -> y.go(0, 0));
        x.pass(1);
        is(x.busy(0), 0);
        is(x.go(0, 0), 3);
        says("Where it has ground this year, it can put up its next part, and is busy for the hours of that;");
        FairCircuit up = twoParts.get();
        is(up.up(0), 1);
        is(up.busy(0), 3);
        refuses(Checks.world(twoParts, y -> { y.go(0, 1); y.pass(3); }), Checks.UNSUPPORTED, y -> y.up(0));
        refuses(Checks.world(twoParts, y -> { y.up(0); y.pass(YEAR); }), Checks.UNSUPPORTED, y -> y.up(0));
        says("all that is up can be pulled down, and it is busy likewise.");
        up.pass(3);
        up.up(0);
        up.pass(2);
        is(up.down(0), 2);
        is(up.busy(0), 2);
        is(up.partsUp(0), 0);
        says("It can go back to winter quarters at once.");
        FairCircuit back = there();
        is(back.go(0, -1), 0);
        is(back.at(0), -1);
        is(back.busy(0), 0);
        is(back.go(0, 0), 10);
        refuses(partUp, Checks.UNSUPPORTED, y -> y.go(0, -1));
        refuses(onTheWay, Checks.UNSUPPORTED, y -> y.go(0, -1));
    }

    // ---- making it

    private static void making() {
        says("Making it. A ride can make one fair and then another one in this year if, from the end of the first"
            + " one, the hours to pull all of its parts down, those of the way, and those of all of its parts are"
            + " over when the other one opens, at that hour at the latest.");
        // From the hour 22 of day 1 to the hour 12 of day 2 there are 14 hours.
        FairCircuit x = fairsOn(1, 2);
        is(x.canMake(0, 0, 1), false);
        x.road(0, 1, 200, 12);
        is(x.canMake(0, 0, 1), true);
        x.part(0, 2);
        is(x.canMake(0, 0, 1), true);
        x.part(0, 1);
        is(x.canMake(0, 0, 1), true);
        x.part(0, 1);
        // 2 to pull down, 10 the way, 4 to go up.
        is(x.canMake(0, 0, 1), false);
        x.road(0, 1, 160, 12);
        is(x.canMake(0, 0, 1), true);
        x.road(0, 1, 161, 12);
        is(x.canMake(0, 0, 1), false);
        x.road(0, 1, 160, 11);
        is(x.canMake(0, 0, 1), false);
        is(x.canMake(0, 1, 0), false);
        is(x.canMake(0, 1, 1), false);
        // In this year: Easter is on day 98 of 1950 and on day 83 of 1951.
        FairCircuit easter = fairsOn(90);
        easter.fair('m', 0, 1, 50, 0);
        easter.road(0, 1, 1, 12);
        is(easter.canMake(0, 0, 1), true);
        is(easter.canMake(0, 1, 0), false);
        easter.pass(YEAR);
        is(easter.canMake(0, 0, 1), false);
        is(easter.canMake(0, 1, 0), true);
        // From the end of the first one, which lasts four days.
        FairCircuit lasting = fairsOn();
        lasting.fair('f', 10, 4, 50, 0);
        lasting.fair('f', 13, 1, 50, 0);
        lasting.fair('f', 14, 1, 50, 0);
        lasting.road(0, 1, 1, 12);
        lasting.road(0, 2, 1, 12);
        is(lasting.canMake(0, 0, 1), false);
        is(lasting.canMake(0, 0, 2), true);
    }

    private static String tour(FairCircuit x) {
        StringBuilder row = new StringBuilder();
        Object got = asked(x, y -> y.tour(0, 0));
        for (int i = 1; !got.equals(NONE) && i < 10; i++) {
            int index = i;
            row.append(got);
            got = asked(x, y -> y.tour(0, index));
        }
        return row.toString();
    }

    private static FairCircuit joined(int... days) {
        FairCircuit x = fairsOn(days);
        for (int from = 0; from < days.length; from++) {
            for (int to = 0; to < from; to++) x.road(from, to, 1, 12);
        }
        return x;
    }

    private static void tours() {
        says("The tour of a ride is the longest row of fairs each of which it can make behind the one ahead of it;");
        is(tour(joined()), "");
        is(tour(joined(7)), "0");
        is(tour(joined(30, 10, 20)), "120");
        is(tour(joined(8, 7, 6, 5, 4, 3, 2, 1)), "76543210");
        FairCircuit slow = joined(3, 1, 2);
        is(tour(slow), "120");
        slow.part(0, 10);
        // 5 to pull down, 1 the way and 10 to go up: not overnight, but from day 1 to day 3.
        is(tour(slow), "10");
        FairCircuit low = fairsOn(1, 2, 3);
        low.road(0, 1, 1, 12);
        low.road(1, 2, 1, 11);
        is(tour(low), "01");
        says("of several that whose first fair has the lowest number, then the next.");
        is(tour(joined(5, 5, 5)), "0");
        is(tour(joined(20, 10, 10, 30, 20)), "103");
        is(tour(joined(20, 10, 20, 10)), "10");
        FairCircuit apart = fairsOn(1, 1, 2, 2);
        apart.road(0, 3, 1, 12);
        apart.road(1, 2, 1, 12);
        is(tour(apart), "03");
        apart.road(1, 2, 1, 13);
        apart.road(0, 3, 1, 11);
        is(tour(apart), "12");
    }

    // ---- rights and allotting

    /** Two families of the guild, an outsider, and a fair of 100 feet on day 50 with a toll of 1. */
    private static FairCircuit ground() {
        FairCircuit x = new FairCircuit();
        x.family(true);
        x.family(true);
        x.family(false);
        x.fair('f', 50, 2, 100, 1);
        return x;
    }

    /** Adds a ride and tells it for fair 0. */
    private static void stand(FairCircuit x, int family, char kind, int frontage) {
        x.apply(0, x.ride(family, kind, frontage, 8, 0, 1, 1, 0));
    }

    private static String places(FairCircuit x) {
        StringBuilder row = new StringBuilder();
        row.append(asked(x, y -> y.allot(0)));
        for (int i = 0; i < 12; i++) {
            int ride = i;
            Object got = asked(x, y -> y.placeOf(0, ride));
            if (got instanceof Integer || got.equals(NONE)) row.append(got.equals(NONE) ? " -" : " " + got);
        }
        return row.toString();
    }

    private static void rights() {
        says("Rights. A family can have the right to a stretch of a ground, from one foot up to another one, that"
            + " not included;");
        FairCircuit x = ground();
        is(x.right(0, 1, 40, 90), 1);
        for (int foot = 0; foot < 100; foot++) {
            int asked = foot;
            is(asked(x, y -> y.holder(0, asked)), foot >= 40 && foot < 90 ? (Object) 1 : NONE);
        }
        says("stretches of one ground do not overlap, lost ones aside.");
        Supplier<FairCircuit> given = Checks.world(ReadingTermsTest::ground, y -> y.right(0, 1, 40, 90));
        for (int[] over : new int[][] {{0, 41}, {89, 100}, {40, 90}, {60, 61}, {0, 100}}) {
            refuses(given, Checks.UNSUPPORTED, y -> y.right(0, 1, over[0], over[1]));
            FairCircuit lost = given.get();
            for (int i = 0; i < 3; i++) lost.pass(YEAR);
            is(lost.right(0, 2, over[0], over[1]), 1);
            is(lost.holder(0, over[0]), 2);
        }
        is(given.get().right(0, 0, 0, 40), 2);
        is(given.get().right(0, 2, 90, 100), 2);
        // Another ground is not theirs.
        FairCircuit other = given.get();
        other.fair('f', 60, 1, 100, 0);
        is(other.right(1, 0, 40, 90), 1);
    }

    private static void usedAndLost() {
        says("It is used in a year in which a ride is put on it by it, in allotting;");
        FairCircuit used = ground();
        used.right(0, 0, 0, 20);
        stand(used, 0, 'a', 20);
        used.pass(YEAR);
        used.apply(0, 0);
        used.allot(0);
        is(heldFor(used), 3);
        // Told, but not allotted.
        FairCircuit told = ground();
        told.right(0, 0, 0, 20);
        stand(told, 0, 'a', 20);
        told.pass(YEAR);
        told.apply(0, 0);
        is(heldFor(told), 2);
        // On it, but with the others: it does not lie in it.
        FairCircuit wide = ground();
        wide.right(0, 0, 0, 20);
        stand(wide, 0, 'a', 25);
        wide.pass(YEAR);
        wide.apply(0, 0);
        is(places(wide), "25 0");
        is(heldFor(wide), 2);
        says("it is lost as the third year begins behind that in which it was used last, or given.");
        FairCircuit lost = ground();
        lost.right(0, 0, 0, 20);
        is(heldFor(lost), 3);
        FairCircuit hours = ground();
        hours.right(0, 0, 0, 20);
        hours.pass(YEAR);
        hours.pass(YEAR);
        hours.pass(YEAR - 1);
        is(hours.holder(0, 0), 0);
        hours.pass(1);
        is(asked(hours, y -> y.holder(0, 0)), NONE);
        is(hours.right(0, 1, 30, 40), 1);
        // Used last in 1951 and in 1952, it is lost as 1955 begins.
        FairCircuit often = ground();
        often.right(0, 0, 0, 20);
        stand(often, 0, 'a', 20);
        for (int year = 1951; year < 1953; year++) {
            often.pass(YEAR);
            often.apply(0, 0);
            often.allot(0);
        }
        is(often.year(), 1952);
        is(heldFor(often), 3);
    }

    /** With the beginning of which year from now on the right to foot 0 is lost. */
    private static int heldFor(FairCircuit x) {
        int years = 0;
        while (years < 9 && !asked(x, y -> y.holder(0, 0)).equals(NONE)) {
            x.pass(YEAR);
            years++;
        }
        return years;
    }

    private static void telling() {
        says("Allotting. Rides are told for a fair, for this year;");
        FairCircuit x = ground();
        x.fair('f', 60, 1, 50, 0);
        stand(x, 0, 'a', 10);
        is(x.ride(1, 'b', 20, 8, 0, 1, 1, 0), 1);
        is(x.apply(0, 1), 2);
        is(x.apply(1, 1), 1);
        is(asked(x, y -> y.apply(0, 1)), "UnsupportedOperationException");
        is(x.allot(0), 30);
        is(x.allot(1), 20);
        says("as a year begins, nothing is told or allotted.");
        x.pass(YEAR);
        is(asked(x, y -> y.placeOf(0, 1)), NONE);
        is(asked(x, y -> y.standing(1, 0)), NONE);
        is(x.filledShare(0), 0f);
        is(x.allot(1), 0);
        is(x.apply(0, 1), 1);
        is(x.allot(0), 20);
        FairCircuit told = ground();
        stand(told, 0, 'a', 10);
        told.pass(YEAR);
        is(told.allot(0), 0);
        says("The ground of a fair is allotted once in a year, ahead of its opening.");
        is(asked(x, y -> y.allot(0)), "UnsupportedOperationException");
        Supplier<FairCircuit> hourAhead = Checks.world(ReadingTermsTest::ground, y -> y.pass(50 * 24 + 11));
        is(hourAhead.get().allot(0), 0);
        refuses(Checks.world(hourAhead, y -> y.pass(1)), Checks.UNSUPPORTED, y -> y.allot(0));
        refuses(Checks.world(hourAhead, y -> y.pass(5000)), Checks.UNSUPPORTED, y -> y.allot(0));
    }

    private static void byRights() {
        says("First, the rights that are not lost go by their first foot: in each the rides of its family that are"
            + " told and have no ground yet, as they were told, one beside the other from its first foot, as far as"
            + " they lie in it;");
        FairCircuit later = ground();
        later.right(0, 0, 60, 100);
        later.right(0, 0, 10, 40);
        stand(later, 0, 'a', 25);
        stand(later, 0, 'b', 20);
        stand(later, 0, 'c', 20);
        is(places(later), "65 10 60 80");
        FairCircuit told = ground();
        told.right(0, 0, 30, 60);
        for (int i = 0; i < 4; i++) told.ride(i == 2 ? 1 : 0, (char) ('a' + i), 15, 8, 0, 1, 1, 0);
        told.apply(0, 2);
        told.apply(0, 3);
        told.apply(0, 0);
        // 1 is not told, 2 is of another family, 3 was told ahead of 0.
        is(places(told), "45 45 - 0 30");
        FairCircuit lost = ground();
        lost.right(0, 0, 50, 100);
        for (int i = 0; i < 3; i++) lost.pass(YEAR);
        stand(lost, 0, 'a', 20);
        is(places(lost), "20 0");
        FairCircuit one = ground();
        one.right(0, 0, 20, 40);
        one.right(0, 0, 60, 80);
        stand(one, 0, 'a', 20);
        is(places(one), "20 20");
        says("one that does not, or may not by its likes, is left to the others, and the next one is looked at there.");
        FairCircuit wide = ground();
        wide.right(0, 0, 10, 30);
        stand(wide, 0, 'a', 15);
        stand(wide, 0, 'b', 6);
        stand(wide, 0, 'c', 5);
        is(places(wide), "26 10 0 25");
        FairCircuit likes = ground();
        likes.right(0, 0, 0, 50);
        stand(likes, 0, 'a', 10);
        stand(likes, 0, 'a', 10);
        stand(likes, 0, 'b', 10);
        stand(likes, 0, 'a', 11);
        // Left to the others, they may not stand in that right: one comes behind it, the last nowhere.
        is(places(likes), "30 0 50 10 -");
        FairCircuit next = ground();
        next.right(0, 0, 0, 10);
        next.right(0, 0, 20, 40);
        stand(next, 0, 'a', 20);
        is(places(next), "20 20");
    }

    private static void toOthers() {
        says("Then the others go, those of families of the guild first, else as they were told: each at the first"
            + " foot at which its frontage is free, of no right that is used this year, and as it may by its likes,"
            + " if there is one.");
        FairCircuit guild = ground();
        stand(guild, 2, 'a', 10);
        stand(guild, 1, 'b', 20);
        stand(guild, 2, 'c', 30);
        stand(guild, 0, 'd', 40);
        is(places(guild), "100 60 0 70 20");
        FairCircuit free = ground();
        stand(free, 2, 'a', 60);
        stand(free, 2, 'b', 41);
        stand(free, 2, 'c', 40);
        is(places(free), "100 0 - 60");
        FairCircuit right = ground();
        right.right(0, 0, 10, 40);
        right.right(0, 1, 60, 80);
        stand(right, 0, 'a', 5);
        stand(right, 2, 'b', 11);
        stand(right, 2, 'c', 10);
        // The first right is used, all of it; nobody is put on the second one by it.
        is(places(right), "26 10 40 0");
        FairCircuit year = ground();
        year.right(0, 0, 0, 20);
        stand(year, 0, 'a', 20);
        year.allot(0);
        year.pass(YEAR);
        stand(year, 2, 'b', 20);
        is(places(year), "20 - 0");
        says("No ride comes nearer to one of its own kind than 30 feet, from edge to edge.");
        FairCircuit likes = ground();
        stand(likes, 2, 'a', 20);
        stand(likes, 2, 'a', 20);
        stand(likes, 2, 'a', 5);
        stand(likes, 2, 'b', 30);
        is(places(likes), "70 0 50 - 20");
        FairCircuit ahead = ground();
        ahead.right(0, 0, 60, 70);
        stand(ahead, 0, 'a', 10);
        stand(ahead, 2, 'a', 30);
        stand(ahead, 2, 'a', 5);
        is(places(ahead), "40 60 0 -");
        FairCircuit near = ground();
        near.right(0, 0, 60, 71);
        stand(near, 0, 'a', 11);
        stand(near, 2, 'a', 31);
        is(places(near), "11 60 -");
        says("Each family pays the toll for each foot.");
        is(guild.money(0), 1000 - 40);
        is(guild.money(1), 1000 - 20);
        is(guild.money(2), 1000 - 10 - 30);
        is(near.money(2), 1000);
        FairCircuit dear = new FairCircuit();
        dear.family(false);
        dear.fair('f', 50, 2, 100, 99);
        stand(dear, 0, 'a', 60);
        stand(dear, 0, 'b', 40);
        is(dear.allot(0), 100);
        is(dear.money(0), 1000 - 9900);
    }

    // ---- opening and a day

    /** Ride 0 told for fair 0 of days 5 and 6 and allotted, with two parts, and still in winter quarters. */
    private static FairCircuit told() {
        FairCircuit x = new FairCircuit();
        x.family(true);
        x.fair('f', 5, 2, 100, 0);
        x.fair('f', 20, 2, 100, 0);
        x.road(0, 1, 21, 20);
        x.ride(0, 'a', 10, 8, 5, 2, 3, 4);
        x.part(0, 3);
        x.part(0, 1);
        x.apply(0, 0);
        x.allot(0);
        x.defect(0, true);
        x.wind(5);
        return x;
    }

    private static FairCircuit built() {
        FairCircuit x = told();
        x.go(0, 0);
        x.pass(10);
        x.up(0);
        x.pass(3);
        x.up(0);
        x.pass(1);
        return x;
    }

    private static void opening() {
        says("Opening. What keeps a ride from opening is the first of these: 'l' it has no ground this year at the"
            + " fair at which it is;");
        FairCircuit x = told();
        is(x.keeps(0), 'l');
        x.go(0, 1);
        is(x.keeps(0), 'l');
        x.pass(10);
        is(x.keeps(0), 'l');
        FairCircuit nextYear = built();
        nextYear.pass(YEAR);
        is(nextYear.keeps(0), 'l');
        says("'b' it is busy, or a part is not up, or it has none;");
        x.go(0, 0);
        is(x.keeps(0), 'b');
        x.pass(2);
        is(x.keeps(0), 'b');
        x.up(0);
        is(x.keeps(0), 'b');
        x.pass(3);
        is(x.keeps(0), 'b');
        x.up(0);
        is(x.keeps(0), 'b');
        FairCircuit none = there();
        none.test(0);
        none.check(0);
        is(none.keeps(0), 'b');
        says("'t' it was not tested on this day or one of the 364 days ahead;");
        x.pass(1);
        is(x.keeps(0), 't');
        testedLongAgo();
        says("'d' it has a defect;");
        x.test(0);
        is(x.keeps(0), 'd');
        x.check(0);
        is(x.keeps(0), 'd');
        says("'c' it was not checked on this day;");
        FairCircuit mended = built();
        mended.test(0);
        mended.defect(0, false);
        is(mended.keeps(0), 'c');
        mended.check(0);
        mended.pass(24 - mended.hour() - 1);
        is(mended.keeps(0), 'w');
        mended.pass(1);
        is(mended.keeps(0), 'c');
        says("'w' the wind of now, 0 to 12, 0 at first, is above its own;");
        mended.check(0);
        is(mended.keeps(0), 'w');
        mended.wind(12);
        is(mended.keeps(0), 'w');
        refuses(FairCircuit::new, Checks.ARGUMENT, y -> y.wind(-1));
        refuses(FairCircuit::new, Checks.ARGUMENT, y -> y.wind(13));
        is(new FairCircuit().wind(12), 0);
        says("'-' nothing does.");
        is(mended.wind(4), 12);
        is(mended.keeps(0), '-');
        mended.wind(0);
        is(mended.keeps(0), '-');
    }

    /** Tested on day 3 of 1950, and on its ground again in 1951. */
    private static void testedLongAgo() {
        FairCircuit x = built();
        x.pass(3 * 24 - x.hour());
        x.test(0);
        x.defect(0, false);
        x.wind(0);
        x.pass(YEAR - x.hour());
        x.apply(0, 0);
        x.allot(0);
        x.pass(2 * 24 + 23);
        x.check(0);
        is(x.keeps(0), '-');
        x.pass(1);
        x.check(0);
        is(x.keeps(0), 't');
    }

    /**
     * Fairs 0 and 1, a mile apart, on days 5 to 13, and rides of these powers, prices and rooms side by
     * side at fair 0, of kinds 'a' on, which nothing keeps in the hour 13 of day 5.
     */
    private static FairCircuit ready(int power, int[]... rides) {
        FairCircuit x = new FairCircuit();
        x.family(true);
        for (int fair = 0; fair < 2; fair++) {
            x.fair('f', 5, 9, 200, 0);
            if (power > 0) x.power(fair, power);
        }
        x.road(0, 1, 1, 20);
        for (int i = 0; i < rides.length; i++) {
            x.ride(0, (char) ('a' + i), 10, 8, rides[i][0], rides[i][1], rides[i][2], 12);
            x.part(i, 1);
            x.apply(0, i);
            x.apply(1, i);
            x.go(i, 0);
        }
        x.allot(0);
        x.allot(1);
        x.pass(10);
        for (int i = 0; i < rides.length; i++) x.up(i);
        x.pass(5 * 24 + 13 - 10);
        for (int i = 0; i < rides.length; i++) {
            x.test(i);
            x.check(i);
        }
        return x;
    }

    private static String takings(FairCircuit x, int people, int money) {
        StringBuilder row = new StringBuilder();
        row.append(x.crowd(0, people, money));
        for (int i = 0; i < 5; i++) {
            int ride = i;
            Object got = asked(x, y -> y.takings(ride));
            if (got instanceof Integer) row.append(" ").append(got);
        }
        return row.toString();
    }

    private static void crowds() {
        says("A day. Once on a day, while it is open, a fair can have its crowd: so many people, each with the same"
            + " money.");
        Supplier<FairCircuit> day = () -> ready(0, new int[] {0, 1, 500});
        is(day.get().crowd(0, 499, 1), 499);
        refuses(Checks.world(day, y -> y.crowd(0, 1, 1)), Checks.UNSUPPORTED, y -> y.crowd(0, 1, 1));
        refuses(Checks.world(day, y -> { y.crowd(0, 1, 1); y.pass(10); }), Checks.UNSUPPORTED, y -> y.crowd(0, 1, 1));
        is(Checks.world(day, y -> { y.crowd(0, 1, 1); y.pass(11); y.check(0); }).get().crowd(0, 2, 1), 2);
        is(Checks.world(day, y -> y.crowd(1, 1, 1)).get().crowd(0, 3, 1), 3);
        // What the people of another crowd have left is not there any more.
        is(Checks.world(day, y -> { y.crowd(1, 400, 99); y.pass(11); y.check(0); }).get().crowd(0, 5, 1), 5);
        FairCircuit poorer = day.get();
        poorer.crowd(0, 400, 99);
        poorer.pass(24);
        poorer.check(0);
        is(poorer.crowd(0, 5, 1), 5);
        refuses(Checks.world(day, y -> y.pass(8 * 24 + 9)), Checks.UNSUPPORTED, y -> y.crowd(0, 1, 1));
        is(Checks.world(day, y -> { y.pass(8 * 24 + 8); y.check(0); }).get().crowd(0, 4, 1), 4);
        says("The rides there that nothing keeps run, from the first foot on, if the power told for the fair, 0 at"
            + " first, is enough for it and those ahead of it that run;");
        is(takings(ready(0, new int[] {0, 1, 9}, new int[] {1, 1, 9}), 9, 9), "9 9 0");
        is(takings(ready(50, new int[] {20, 1, 9}, new int[] {30, 1, 9}), 9, 9), "18 9 9");
        is(takings(ready(49, new int[] {20, 1, 9}, new int[] {30, 1, 9}), 9, 9), "9 9 0");
        FairCircuit kept = ready(50, new int[] {20, 1, 9}, new int[] {30, 1, 9}, new int[] {20, 1, 9});
        kept.defect(0, true);
        // One that is kept takes no power, and none from there on.
        is(takings(kept, 9, 9), "18 0 9 9");
        FairCircuit gone = ready(50, new int[] {20, 1, 9}, new int[] {30, 1, 9});
        gone.down(0);
        gone.go(0, -1);
        is(takings(gone, 9, 9), "9 0 9");
        is(takings(byFeet(), 9, 3), "18 0 18");
        says("one for which it is not is left out.");
        is(takings(ready(30, new int[] {20, 1, 9}, new int[] {30, 1, 9}, new int[] {10, 1, 9}), 9, 9), "18 9 0 9");
        is(takings(ready(5, new int[] {20, 1, 9}, new int[] {5, 1, 9}, new int[] {1, 1, 9}, new int[] {0, 1, 9}), 9, 9), "18 0 9 0 9");
    }

    /** Ride 1, of the guild, stands ahead of ride 0, and there is money for one of them. */
    private static FairCircuit byFeet() {
        FairCircuit x = new FairCircuit();
        x.family(false);
        x.family(true);
        x.fair('f', 5, 1, 100, 0);
        for (int i = 0; i < 2; i++) {
            x.ride(i, (char) ('a' + i), 10, 8, 0, 2, 500, 12);
            x.part(i, 1);
            x.apply(0, i);
            x.go(i, 0);
        }
        x.allot(0);
        x.pass(10);
        for (int i = 0; i < 2; i++) {
            x.up(i);
            x.test(i);
        }
        x.pass(5 * 24 + 12 - 10);
        for (int i = 0; i < 2; i++) x.check(i);
        return x;
    }

    private static void paying() {
        says("Each that runs, in this order, takes its price from as many people as it has room for, those with the"
            + " most money left first, who have so much.");
        // 3 have 5: two pay 4 and have 1; the one with 5 pays 3 and has 2, the others have too little.
        is(takings(ready(0, new int[] {0, 4, 2}, new int[] {0, 3, 2}), 3, 5), "11 8 3");
        // He pays 2 then, and 1 is paid by the two who have it.
        is(takings(ready(0, new int[] {0, 4, 2}, new int[] {0, 3, 2}, new int[] {0, 2, 9}, new int[] {0, 1, 9}), 3, 5), "15 8 3 2 2");
        // 4 have 9: two pay 2; the two with 9 pay 8 ahead of those with 7, who pay 7.
        is(takings(ready(0, new int[] {0, 2, 2}, new int[] {0, 8, 3}, new int[] {0, 7, 3}), 4, 9), "34 4 16 14");
        is(takings(ready(0, new int[] {0, 20, 500}), 2000, 99), "10000 10000");
        is(takings(ready(0, new int[] {0, 20, 500}), 2000, 19), "0 0");
        is(takings(ready(0, new int[] {0, 20, 500}), 7, 20), "140 140");
        says("The family gets that, and pays 1 for each power of the ride.");
        FairCircuit x = ready(60, new int[] {20, 3, 4}, new int[] {30, 5, 4}, new int[] {11, 1, 4});
        x.family(false);
        x.sell(1, 1, 0);
        // Two with 7 pay 3 each; with 4 they cannot pay 5, but the ride runs; the third is left out.
        is(takings(x, 2, 7), "6 6 0 0");
        is(x.money(0), 1000 + 6 - 20);
        is(x.money(1), 1000 - 30);
    }

    // ---- deaths, sales, exceptions and examples

    /** Families 0, 1 and an outsider 2; fair 0 of 100 feet; rides 0 and 1 of family 0, 2 of family 1. */
    private static FairCircuit estate() {
        FairCircuit x = ground();
        x.ride(0, 'a', 20, 8, 0, 1, 1, 0);
        x.ride(0, 'b', 20, 8, 0, 1, 1, 0);
        x.ride(1, 'c', 20, 8, 0, 1, 1, 0);
        x.right(0, 0, 0, 10);
        x.right(0, 1, 10, 20);
        x.fine(0, 100);
        return x;
    }

    private static void deaths() {
        Supplier<FairCircuit> dead = Checks.world(ReadingTermsTest::estate, y -> y.dies(0, 1));
        says("Deaths and sales. As a family dies out, its rides, rights and money are those of another one;");
        FairCircuit x = estate();
        is(x.dies(0, 1), 3);
        is(x.owner(0, 1), 1);
        is(x.owner(1, 1), 1);
        is(x.holder(0, 0), 1);
        is(x.holder(0, 10), 1);
        is(x.money(1), 1900);
        is(x.money(0), 0);
        is(asked(x, y -> y.sell(0, 1, 5)), "UnsupportedOperationException");
        x.apply(0, 0);
        x.allot(0);
        is(x.money(1), 1900 - 20);
        // What it owed is owed by the heir.
        FairCircuit debts = estate();
        for (int i = 0; i < 3; i++) debts.fine(0, 900);
        debts.dies(0, 2);
        is(debts.money(2), 1000 - 1800);
        // The heir uses the right, and it is of an outsider now: the guild comes ahead of its other ride.
        FairCircuit heir = Checks.world(ReadingTermsTest::estate, y -> y.dies(0, 2)).get();
        heir.ride(2, 'd', 10, 8, 0, 1, 1, 0);
        for (int told : new int[] {0, 2, 3}) heir.apply(0, told);
        is(places(heir), "50 30 - 10 0");
        says("it does nothing any more.");
        refuses(dead, Checks.UNSUPPORTED, y -> y.ride(0, 'a', 20, 8, 0, 1, 1, 0));
        refuses(dead, Checks.UNSUPPORTED, y -> y.right(0, 0, 50, 60));
        refuses(dead, Checks.UNSUPPORTED, y -> y.sell(0, 0, 5));
        refuses(dead, Checks.UNSUPPORTED, y -> y.dies(0, 2));
        refuses(dead, Checks.UNSUPPORTED, y -> y.dies(2, 0));
        says("A ride can be sold, for a price that its family gets from the other one;");
        FairCircuit sold = estate();
        is(sold.sell(0, 2, 9999), 1);
        is(sold.money(0), 900 + 9999);
        is(sold.money(2), 1000 - 9999);
        is(sold.money(1), 1000);
        is(sold.sell(0, 1, 0), 2);
        is(sold.money(2), 1000 - 9999);
        refuses(ReadingTermsTest::estate, Checks.ARGUMENT, y -> y.sell(0, 1, -1));
        refuses(ReadingTermsTest::estate, Checks.ARGUMENT, y -> y.sell(0, 1, 10000));
        refuses(ReadingTermsTest::estate, Checks.UNSUPPORTED, y -> y.sell(0, 0, 5));
        says("it keeps a book of its owners.");
        is(sold.sell(0, 2, 1), 3);
        is(sold.dies(2, 0), 2);
        int[] owners = {0, 2, 1, 2, 0};
        for (int i = 0; i < owners.length; i++) {
            int index = i;
            is(asked(sold, y -> y.owner(0, index)), owners[i]);
        }
        is(asked(sold, y -> y.owner(0, 5)), NONE);
        is(asked(sold, y -> y.owner(1, 1)), NONE);
        is(sold.isTrue(), true);
    }

    private static void exceptions() {
        Supplier<FairCircuit> opened = Checks::opened;
        says("Exceptions. A method that throws an exception changes nothing.");
        // Each exception of each method is tested so in RefusedTest.
        refuses(opened, Checks.ARGUMENT, y -> y.pass(8761));
        refuses(opened, Checks.UNSUPPORTED, y -> y.allot(0));
        refuses(opened, Checks.UNSUPPORTED, y -> y.go(0, 1));
        refuses(opened, Checks.UNSUPPORTED, y -> y.crowd(1, 5, 5));
        refuses(opened, Checks.UNSUPPORTED, y -> y.dies(0, 3));
        refuses(opened, Checks.UNSUPPORTED, y -> y.sell(0, 3, 5));
        refuses(opened, Checks.UNSUPPORTED, y -> y.right(0, 0, 80, 100));
        says("If several exceptions apply, the exception listed first is thrown.");
        // Each two of each method are tested so in OrderTest.
        refuses(opened, Checks.INDEX, y -> y.ride(9, 'z', 0, 0, 0, 0, 0, 0));
        refuses(opened, Checks.ARGUMENT, y -> y.ride(3, 'z', 20, 10, 10, 2, 50, 6));
        refuses(opened, Checks.INDEX, y -> y.crowd(2, 0, 0));
        refuses(opened, Checks.ARGUMENT, y -> y.crowd(1, 0, 5));
        refuses(opened, Checks.INDEX, y -> y.sell(0, 9, -1));
        refuses(opened, Checks.ARGUMENT, y -> y.sell(0, 0, -1));
        refuses(opened, Checks.INDEX, y -> y.right(0, 9, 5, 5));
        refuses(opened, Checks.ARGUMENT, y -> y.right(0, 3, 50, 50));
        refuses(opened, Checks.INDEX, y -> y.go(0, 9));
    }

    private static void examples() {
        says("Examples: each one begins with a new object;");
        is(new FairCircuit().checksum(), 7L * 31);
        says("behind each call and = stands its result.");
        FairCircuit x = new FairCircuit();
        is(x.isTrue(), true);
        says("- easter(1950) = 98;");
        is(x.easter(1950), 98);
        says("family(true) = 0;");
        is(x.family(true), 0);
        says("fair('m', -10, 2, 80, 0) = 0;");
        is(x.fair('m', -10, 2, 80, 0), 0);
        says("start(0) = 88.");
        is(x.start(0), 88);
        secondExample();
        FairCircuit z = new FairCircuit();
        says("- fair('f', 10, 2, 50, 1) = 0;");
        is(z.fair('f', 10, 2, 50, 1), 0);
        says("fair('f', 14, 1, 50, 1) = 1;");
        is(z.fair('f', 14, 1, 50, 1), 1);
        says("road(0, 1, 41, 12) = false;");
        is(z.road(0, 1, 41, 12), false);
        says("way(0, 1, 12) = 3.");
        is(z.way(0, 1, 12), 3);
    }

    private static void secondExample() {
        FairCircuit y = new FairCircuit();
        says("- family(true) = 0;");
        is(y.family(true), 0);
        says("fair('f', 2, 3, 100, 2) = 0;");
        is(y.fair('f', 2, 3, 100, 2), 0);
        says("ride(0, 'a', 20, 10, 10, 2, 50, 6) = 0;");
        is(y.ride(0, 'a', 20, 10, 10, 2, 50, 6), 0);
        says("right(0, 0, 40, 90) = 1;");
        is(y.right(0, 0, 40, 90), 1);
        says("apply(0, 0) = 1;");
        is(y.apply(0, 0), 1);
        says("allot(0) = 20;");
        is(y.allot(0), 20);
        says("placeOf(0, 0) = 40;");
        is(y.placeOf(0, 0), 40);
        says("money(0) = 960.");
        is(y.money(0), 960);
    }

    public static void main(String[] args) throws IOException {
        read(args, "# FairCircuit", "## Promise 1: A new object");
        whatItIs();
        time();
        easter();
        fairs();
        roads();
        families();
        rides();
        parts();
        going();
        making();
        tours();
        rights();
        usedAndLost();
        telling();
        byRights();
        toOthers();
        opening();
        crowds();
        paying();
        deaths();
        exceptions();
        examples();
        end("ReadingTermsTest");
    }
}
