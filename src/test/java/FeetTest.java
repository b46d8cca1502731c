import java.util.ArrayList;
import java.util.List;
import java.util.function.Supplier;

/** Where lengths and feet begin and end: miles, heights, halves, rights, likes and ground. */
public final class FeetTest {
    private static final Supplier<FairCircuit> GROUND = FeetTest::ground;

    /** Families 0 and 1 of the guild, an outsider 2, and one fair of 100 feet on day 50 with a toll of 1. */
    private static FairCircuit ground() {
        FairCircuit x = new FairCircuit();
        x.family(true);
        x.family(true);
        x.family(false);
        x.fair('f', 50, 2, 100, 1);
        return x;
    }

    /** Four fairs, without a road. */
    private static FairCircuit fairs() {
        FairCircuit x = new FairCircuit();
        x.family(true);
        for (int i = 0; i < 4; i++) x.fair('f', 10 * i, 1, 50, 0);
        return x;
    }

    private static void way(String name, Supplier<FairCircuit> world, int height, Object due) {
        Cases.gives("promise 10, way: " + name, world, x -> x.way(0, 1, height), due);
    }

    private static Supplier<FairCircuit> roads(int... fairFairMilesHeight) {
        return Checks.world(FeetTest::fairs, x -> {
            int[] r = fairFairMilesHeight;
            for (int i = 0; i < r.length; i += 4) x.road(r[i], r[i + 1], r[i + 2], r[i + 3]);
        });
    }

    private static void miles() {
        int[][] due = {{1, 1}, {19, 1}, {20, 1}, {21, 2}, {40, 2}, {41, 3}, {199, 10}, {200, 10}};
        for (int[] d : due) way(d[0] + " miles", roads(0, 1, d[0], 8), 8, d[1]);
        way("all miles are rounded up, 10 and 10", roads(0, 2, 10, 8, 2, 1, 10, 8), 8, 1);
        way("all miles are rounded up, 10 and 11", roads(0, 2, 10, 8, 2, 1, 11, 8), 8, 2);
        way("all miles are rounded up, 21 and 21", roads(0, 2, 21, 8, 2, 1, 21, 8), 8, 3);
        way("a round of a mile less", roads(0, 1, 41, 8, 0, 2, 20, 8, 2, 1, 20, 8), 8, 2);
        way("a round of a mile more", roads(0, 1, 40, 8, 0, 2, 20, 8, 2, 1, 21, 8), 8, 2);
        way("two roads are of fewer miles than one", roads(0, 1, 200, 8, 0, 2, 1, 8, 2, 1, 1, 8), 8, 1);
        way("three roads are of fewer miles than two", roads(0, 2, 60, 8, 2, 1, 1, 8, 0, 3, 20, 8, 3, 2, 19, 8), 8, 2);
        way("round by the fair with the highest number", roads(0, 3, 5, 8, 3, 1, 5, 8), 8, 1);
        Cases.answers("promise 10, way: round by the fair with the lowest number", roads(2, 0, 20, 8, 0, 1, 20, 8), x -> x.way(2, 1, 8), 2);
        way("a road told anew, shorter", roads(0, 1, 41, 8, 1, 0, 40, 8), 8, 2);
        way("a road told anew, longer", roads(0, 1, 40, 8, 1, 0, 41, 8), 8, 3);
        way("a road told anew, lower", roads(0, 1, 40, 12, 0, 1, 40, 11), 12, Checks.NO_ELEMENT);
        way("a road told anew, higher", roads(0, 1, 40, 11, 0, 1, 40, 12), 12, 2);
        Cases.answers("promise 9, road: one of a mile told anew", roads(0, 1, 1, 8), x -> x.road(0, 1, 1, 8), true);
        for (int fair = 0; fair < 2; fair++) {
            int same = fair;
            Cases.refuses("promise 9, road: from fair " + fair + " to itself", roads(0, 1, 5, 8), x -> x.road(same, same, 5, 8), Checks.ARGUMENT);
        }
        Cases.answers("promise 9, road: told anew the other way round", roads(0, 1, 41, 8), x -> x.road(1, 0, 5, 8), true);
        Cases.answers("promise 10, way: told anew once it was asked", roads(0, 1, 41, 8), x -> {
            int before = x.way(0, 1, 8);
            x.road(0, 1, 20, 8);
            return before - x.way(0, 1, 8);
        }, 2);
    }

    private static void heights() {
        for (int height : new int[] {8, 12, 20}) {
            way("the road is just as high, " + height, roads(0, 1, 5, height), height, 1);
            if (height < 20) way("the road is a foot too low, " + height, roads(0, 1, 5, height), height + 1, Checks.NO_ELEMENT);
            if (height > 8) way("the road is a foot higher, " + height, roads(0, 1, 5, height), height - 1, 1);
        }
        Supplier<FairCircuit> low = roads(0, 1, 20, 11, 0, 2, 40, 12, 2, 1, 41, 12);
        way("by the low road", low, 11, 1);
        way("round the low road", low, 12, 5);
        way("the second road of a round is too low", roads(0, 2, 5, 12, 2, 1, 5, 11), 12, Checks.NO_ELEMENT);
        for (int height : new int[] {12, 13}) {
            Supplier<FairCircuit> ride = Checks.world(roads(0, 1, 41, 12), x -> {
                x.ride(0, 'a', 20, height, 0, 1, 1, 0);
                x.go(0, 0);
                x.pass(10);
            });
            String fits = height == 12 ? "just fits" : "is a foot too high";
            Cases.gives("promise 20, go: a ride that " + fits, ride, x -> x.go(0, 1), height == 12 ? 3 : Checks.NO_ELEMENT);
            Cases.answers("promise 23, canMake: a ride that " + fits, ride, x -> x.canMake(0, 0, 1), height == 12);
            Cases.gives("promise 24, tour: a ride that " + fits, ride, x -> x.tour(0, 1), height == 12 ? 1 : Checks.NO_ELEMENT);
        }
    }

    private static void tour(String name, Supplier<FairCircuit> world, Object due) {
        Cases.answers("promise 24, tour: " + name, world, x -> {
            List<Integer> row = new ArrayList<>();
            while (Checks.answer(() -> x.tour(0, row.size())) instanceof Integer fair) row.add(fair);
            return row;
        }, due);
    }

    private static Supplier<FairCircuit> fairsOn(int... days) {
        return () -> {
            FairCircuit x = new FairCircuit();
            x.family(true);
            for (int day : days) x.fair('f', day, 1, 50, 0);
            x.ride(0, 'a', 10, 12, 0, 1, 1, 0);
            return x;
        };
    }

    private static void tours() {
        tour("of one fair each, the lowest number", fairsOn(9, 5, 7), List.of(0));
        tour("the lowest number comes last", Checks.world(fairsOn(20, 10), x -> x.road(0, 1, 5, 20)), List.of(1, 0));
        tour("the lowest number comes in between", Checks.world(fairsOn(20, 10, 30), x -> { x.road(0, 1, 5, 20); x.road(0, 2, 5, 20); }),
            List.of(1, 0, 2));
        tour("of two, the lowest first one", Checks.world(fairsOn(10, 5, 20, 15), x -> { x.road(0, 2, 5, 20); x.road(1, 3, 5, 20); }),
            List.of(0, 2));
        tour("of two, then the lowest next one", Checks.world(fairsOn(10, 20, 20), x -> { x.road(0, 2, 5, 20); x.road(0, 1, 5, 20); }),
            List.of(0, 1));
        tour("one that is longer by one comes ahead of a lower one",
            Checks.world(fairsOn(10, 15, 30, 5, 40), x -> { x.road(0, 2, 5, 20); x.road(3, 1, 5, 20); x.road(1, 4, 5, 20); }),
            List.of(3, 1, 4));
        // From 2 it is 11 hours to 1, and one to 3: with the part's hours, only 3 can be made behind 2.
        tour("the next one is not the lowest, but leads on", Checks.world(fairsOn(10, 20, 19, 20), x -> {
            x.road(0, 1, 200, 12);
            x.road(0, 2, 1, 12);
            x.road(2, 3, 1, 12);
            x.part(0, 3);
        }), List.of(0, 2, 3));
        tour("a day for each of two rows", Checks.world(fairsOn(1, 1, 2, 2), x -> {
            for (int i = 0; i < 4; i++) for (int j = 0; j < i; j++) x.road(i, j, 5, 20);
        }), List.of(0, 2));
    }

    private static void halves() {
        for (int hours = 1; hours <= 4; hours++) {
            int sum = hours;
            Supplier<FairCircuit> up = Checks.world(GROUND, x -> {
                x.ride(0, 'a', 20, 8, 0, 1, 1, 0);
                x.part(0, sum);
                x.part(0, 20);
                x.apply(0, 0);
                x.allot(0);
                x.go(0, 0);
                x.pass(10);
                x.up(0);
                x.pass(sum);
            });
            Cases.answers("promise 22, down: half of " + sum + ", cut, one of two parts", up, x -> x.down(0), sum / 2);
            Cases.answers("promise 22, down: half of " + (sum + 20) + ", cut, both parts",
                Checks.world(up, x -> { x.up(0); x.pass(20); }), x -> x.down(0), 10 + sum / 2);
        }
    }

    /** Where the rides stand once the ground is allotted. */
    private static void holds(String name, Supplier<FairCircuit> world, Object... due) {
        Cases.answers("promise 28, allot: " + name, world, x -> {
            x.allot(0);
            List<Object> places = new ArrayList<>();
            for (int i = 0; i < due.length; i++) {
                int ride = i;
                Object got = Checks.answer(() -> x.placeOf(0, ride));
                places.add(got.equals("NoSuchElementException") ? "none" : got);
            }
            return places;
        }, List.of(due));
    }

    /** A ground with rights of family, first foot and foot behind, and rides of family, kind and feet, all told. */
    private static Supplier<FairCircuit> told(int[][] rights, int[]... rides) {
        return Checks.world(GROUND, x -> {
            for (int[] r : rights) x.right(0, r[0], r[1], r[2]);
            for (int i = 0; i < rides.length; i++) {
                x.ride(rides[i][0], (char) rides[i][1], rides[i][2], 8, 0, 1, 1, 0);
                x.apply(0, i);
            }
        });
    }

    private static int[] r(int... numbers) { return numbers; }
    private static int[][] rights(int[]... rights) { return rights; }

    private static void likesWithoutRights() {
        int[][] none = {};
        holds("likes 30 feet apart", told(none, r(0, 'a', 20), r(0, 'b', 30), r(0, 'a', 20)), 0, 20, 50);
        holds("likes go where they are 30 feet apart, not 29", told(none, r(0, 'a', 20), r(0, 'b', 29), r(0, 'a', 20)), 0, 20, 50);
        holds("another kind needs no feet between", told(none, r(0, 'a', 20), r(0, 'b', 20)), 0, 20);
        holds("the last place for a like, to the end of the ground", told(none, r(0, 'a', 20), r(0, 'a', 50)), 0, 50);
        holds("a foot too much for a like", told(none, r(0, 'a', 20), r(0, 'a', 51)), 0, "none");
        holds("the other is a foot longer", told(none, r(0, 'a', 21), r(0, 'a', 50)), 0, "none");
        holds("likes of two families", told(none, r(0, 'a', 20), r(1, 'a', 20), r(2, 'a', 20)), 0, 50, "none");
        holds("each kind is like itself", told(none, r(0, 'e', 20), r(1, 'd', 20), r(2, 'e', 50), r(2, 'd', 30)), 0, 20, 50, "none");
    }

    private static void likesBehind() {
        int[][] first = {{0, 50, 60}};
        holds("just 30 feet ahead of a like", told(first, r(0, 'a', 10), r(1, 'a', 20)), 50, 0);
        holds("29 feet ahead of a like", told(first, r(0, 'a', 10), r(1, 'a', 21)), 50, "none");
        holds("just 30 feet behind a like, to the end", told(first, r(0, 'a', 10), r(1, 'a', 20), r(1, 'a', 10)), 50, 0, 90);
        holds("a foot too long behind a like", told(first, r(0, 'a', 10), r(1, 'a', 20), r(1, 'a', 11)), 50, 0, "none");
        holds("another kind beside it on both sides", told(first, r(0, 'a', 10), r(1, 'b', 50), r(1, 'c', 40)), 50, 0, 60);
    }

    private static void likesInRights() {
        int[][] all = {{0, 0, 100}};
        holds("in a right, likes 30 feet apart", told(all, r(0, 'a', 10), r(0, 'b', 30), r(0, 'a', 10)), 0, 10, 40);
        holds("in a right, likes 29 feet apart", told(all, r(0, 'a', 10), r(0, 'b', 29), r(0, 'a', 10)), 0, 10, "none");
        holds("in two rights, likes 30 feet apart", told(rights(r(0, 0, 20), r(1, 50, 70)), r(0, 'a', 20), r(1, 'a', 20)), 0, 50);
        // The right is not used, so its ground is the others' too, from foot 50 on.
        holds("in two rights, likes 29 feet apart", told(rights(r(0, 0, 20), r(1, 49, 69)), r(0, 'a', 20), r(1, 'a', 20)), 0, 50);
        holds("the next one is looked at where a like may not", told(all, r(0, 'a', 10), r(0, 'a', 10), r(0, 'b', 10)), 0, "none", 10);
    }

    private static void feetInRights() {
        int[][] ten = {{0, 10, 30}};
        holds("just the right", told(ten, r(0, 'a', 20)), 10);
        holds("a foot too long for the right", told(ten, r(0, 'a', 21)), 0);
        holds("two fill the right", told(ten, r(0, 'a', 12), r(0, 'b', 8)), 10, 22);
        holds("the second is a foot too long for the rest", told(ten, r(0, 'a', 12), r(0, 'b', 9)), 10, 0);
        holds("the third is looked at behind one that does not lie in it", told(ten, r(0, 'a', 12), r(0, 'b', 9), r(0, 'c', 8)), 10, 0, 22);
        holds("a right up to the last foot", told(rights(r(0, 80, 100)), r(0, 'a', 20)), 80);
        holds("a right of the least ride's feet", told(rights(r(0, 80, 85)), r(0, 'a', 5)), 80);
        holds("a right a foot below the least ride's feet", told(rights(r(0, 80, 84)), r(0, 'a', 5)), 0);
        holds("rights side by side", told(rights(r(0, 10, 30), r(1, 30, 50)), r(1, 'a', 20), r(0, 'b', 20)), 30, 10);
        holds("rights go by their first foot", told(rights(r(0, 60, 90), r(0, 10, 30)), r(0, 'a', 20), r(0, 'b', 30)), 10, 60);
        holds("another family's ride is not put on it", told(ten, r(1, 'a', 20)), 0);
        holds("as they were told", told(ten, r(0, 'a', 20), r(0, 'b', 20)), 10, 30);
    }

    private static void feetOfOthers() {
        int[][] used = {{0, 20, 40}};
        holds("just ahead of a used right", told(used, r(0, 'a', 5), r(1, 'b', 20)), 20, 0);
        holds("a foot too long ahead of a used right", told(used, r(0, 'a', 5), r(1, 'b', 21)), 20, 40);
        holds("the rest of a used right is not free", told(used, r(0, 'a', 5), r(1, 'b', 20), r(1, 'c', 15)), 20, 0, 40);
        holds("its own family's right is not free either", told(used, r(0, 'a', 15), r(0, 'b', 10), r(0, 'c', 10)), 20, 0, 10);
        holds("behind a used right, to the end", told(used, r(0, 'a', 5), r(1, 'b', 60)), 20, 40);
        holds("a foot too long behind a used right", told(rights(r(0, 20, 41)), r(0, 'a', 5), r(1, 'b', 60)), 20, "none");
        holds("a right that nobody uses is free", told(used, r(1, 'b', 60)), 0);
        holds("the ground is full", told(rights(), r(0, 'a', 60), r(0, 'b', 40), r(0, 'c', 5)), 0, 60, "none");
        holds("the last five feet", told(rights(), r(0, 'a', 60), r(0, 'b', 35), r(0, 'c', 5)), 0, 60, 95);
        holds("the last four feet", told(rights(), r(0, 'a', 60), r(0, 'b', 36), r(0, 'c', 5)), 0, 60, "none");
        holds("one that has no place leaves it to the next", told(rights(), r(0, 'a', 60), r(0, 'b', 41), r(0, 'c', 40)), 0, "none", 60);
        holds("the guild ahead of an outsider told first", told(rights(), r(2, 'a', 10), r(1, 'b', 10)), 10, 0);
        holds("of the guild, else as they were told", told(rights(), r(1, 'a', 10), r(0, 'b', 10)), 0, 10);
        holds("of outsiders, else as they were told", told(rights(), r(2, 'b', 10), r(2, 'a', 10)), 0, 10);
        Supplier<FairCircuit> lastYear = Checks.world(told(used, r(0, 'a', 20)), x -> {
            x.allot(0);
            x.pass(8760);
            x.ride(1, 'b', 60, 8, 0, 1, 1, 0);
            x.apply(0, 1);
        });
        Cases.answers("promise 28, allot: a right that was used last year is free", lastYear, x -> {
            x.allot(0);
            return x.placeOf(0, 1);
        }, 0);
    }

    private static void tolls() {
        for (int toll : new int[] {0, 1, 99}) {
            Supplier<FairCircuit> world = Checks.world(FairCircuit::new, x -> {
                x.family(true);
                x.fair('f', 5, 1, 200, toll);
                x.ride(0, 'a', 60, 8, 0, 1, 1, 0);
                x.ride(0, 'b', 5, 8, 0, 1, 1, 0);
                x.ride(0, 'a', 60, 8, 0, 1, 1, 0);
                x.apply(0, 0);
                x.apply(0, 1);
                x.allot(0);
            });
            Cases.answers("promise 28, allot: a toll of " + toll + " for each of 65 feet", world, x -> x.money(0), 1000 - 65 * toll);
        }
        Cases.answers("promise 28, allot: no toll for one without ground", Checks.world(
            told(rights(), r(0, 'a', 60), r(0, 'b', 40), r(1, 'c', 5)), x -> x.allot(0)), x -> x.money(1), 1000);
        Cases.answers("promise 28, allot: the toll in a right", Checks.world(
            told(rights(r(1, 0, 20)), r(1, 'c', 20)), x -> x.allot(0)), x -> x.money(1), 980);
        Cases.answers("promise 28, allot: how many feet, all", told(rights(), r(0, 'a', 60), r(0, 'b', 40)), x -> x.allot(0), 100);
    }

    private static void overlaps(String name, int from, int to, boolean isFree) {
        Supplier<FairCircuit> held = Checks.world(GROUND, x -> x.right(0, 0, 40, 60));
        String whole = "promise 25, right: " + name;
        if (isFree) Cases.answers(whole, held, x -> x.right(0, 1, from, to), 2);
        else Cases.refuses(whole, held, x -> x.right(0, 1, from, to), Checks.UNSUPPORTED);
    }

    private static void stretches() {
        overlaps("up to the foot at which another begins", 20, 40, true);
        overlaps("one foot over the first foot of another", 20, 41, false);
        overlaps("from the foot at which another ends", 60, 80, true);
        overlaps("one foot over the last foot of another", 59, 80, false);
        overlaps("the first foot of another alone", 40, 41, false);
        overlaps("the last foot of another alone", 59, 60, false);
        overlaps("the foot ahead of another alone", 39, 40, true);
        overlaps("the foot behind another alone", 60, 61, true);
        overlaps("the same stretch", 40, 60, false);
        overlaps("within another", 45, 50, false);
        overlaps("round another", 39, 61, false);
        overlaps("the whole ground", 0, 100, false);
        Supplier<FairCircuit> held = Checks.world(GROUND, x -> { x.right(0, 0, 40, 60); x.fair('f', 5, 1, 100, 0); });
        Cases.answers("promise 25, right: the same stretch at another fair", held, x -> x.right(1, 1, 40, 60), 1);
        Cases.refuses("promise 25, right: the same stretch for the same family", held, x -> x.right(0, 0, 40, 60), Checks.UNSUPPORTED);
        Cases.refuses("promise 25, right: of no foot", GROUND, x -> x.right(0, 0, 40, 40), Checks.ARGUMENT);
        Cases.refuses("promise 25, right: turned round", GROUND, x -> x.right(0, 0, 41, 40), Checks.ARGUMENT);
        Cases.answers("promise 25, right: of one foot", GROUND, x -> x.right(0, 0, 40, 41), 1);
        Cases.answers("promise 25, right: of the whole ground", GROUND, x -> x.right(0, 0, 0, 100), 1);
        Cases.refuses("promise 26, holder: the foot ahead of a right", held, x -> x.holder(0, 39), Checks.NO_ELEMENT);
        Cases.answers("promise 26, holder: the first foot of a right", held, x -> x.holder(0, 40), 0);
        Cases.answers("promise 26, holder: the last foot of a right", held, x -> x.holder(0, 59), 0);
        Cases.refuses("promise 26, holder: the foot behind a right", held, x -> x.holder(0, 60), Checks.NO_ELEMENT);
        Cases.refuses("promise 26, holder: that foot of another fair", held, x -> x.holder(1, 40), Checks.NO_ELEMENT);
        Cases.answers("promise 26, holder: where two meet", Checks.world(held, x -> x.right(0, 2, 60, 70)), x -> x.holder(0, 60), 2);
    }

    private static void standing() {
        Supplier<FairCircuit> one = Checks.world(told(rights(r(0, 40, 60)), r(0, 'a', 20)), x -> x.allot(0));
        Cases.refuses("promise 29, standing: the foot ahead of a ride", one, x -> x.standing(0, 39), Checks.NO_ELEMENT);
        Cases.answers("promise 29, standing: the first foot of a ride", one, x -> x.standing(0, 40), 0);
        Cases.answers("promise 29, standing: the last foot of a ride", one, x -> x.standing(0, 59), 0);
        Cases.refuses("promise 29, standing: the foot behind a ride", one, x -> x.standing(0, 60), Checks.NO_ELEMENT);
        Cases.answers("promise 30, placeOf: within the ground", one, x -> x.placeOf(0, 0), 40);
        Cases.answers("promise 41, filledShare: of 20 feet", one, x -> x.filledShare(0), 0.2f);
        Supplier<FairCircuit> all = Checks.world(told(rights(), r(0, 'a', 60), r(0, 'b', 40)), x -> x.allot(0));
        Cases.answers("promise 29, standing: where two meet", all, x -> x.standing(0, 60), 1);
        Cases.answers("promise 29, standing: the ground's first foot", all, x -> x.standing(0, 0), 0);
        Cases.answers("promise 29, standing: the ground's last foot", all, x -> x.standing(0, 99), 1);
        Cases.answers("promise 30, placeOf: the ground's first foot", all, x -> x.placeOf(0, 0), 0);
        Cases.answers("promise 30, placeOf: up to the ground's last foot", all, x -> x.placeOf(0, 1), 60);
        Cases.answers("promise 41, filledShare: of all feet", all, x -> x.filledShare(0), 1f);
        Cases.answers("promise 44, isTrue: of all feet", all, x -> x.isTrue(), true);
        Supplier<FairCircuit> third = Checks.world(FairCircuit::new, x -> {
            x.family(true);
            x.fair('f', 5, 1, 60, 0);
            x.ride(0, 'a', 20, 8, 0, 1, 1, 0);
            x.apply(0, 0);
            x.allot(0);
        });
        Cases.answers("promise 41, filledShare: a third, in float", third, x -> x.filledShare(0), 20f / 60f);
    }

    public static void main(String[] args) {
        miles();
        heights();
        tours();
        halves();
        likesWithoutRights();
        likesBehind();
        likesInRights();
        feetInRights();
        feetOfOthers();
        tolls();
        stretches();
        standing();
        Checks.end("FeetTest");
    }
}
