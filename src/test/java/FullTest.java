import java.util.List;
import java.util.function.Supplier;

/** What is full, and what is empty. */
public final class FullTest {
    private static final Supplier<FairCircuit> NEW = FairCircuit::new;
    private static final Supplier<FairCircuit> FAMILY = Checks.world(NEW, x -> x.family(true));
    private static final Supplier<FairCircuit> FAIR = Checks.world(FAMILY, x -> x.fair('f', 10, 2, 100, 1));
    private static final Supplier<FairCircuit> RIDE = Checks.world(FAIR, x -> x.ride(0, 'a', 20, 10, 10, 2, 50, 6));
    /** A ride without a part, at its ground. */
    private static final Supplier<FairCircuit> BARE = Checks.world(RIDE, x -> {
        x.apply(0, 0);
        x.allot(0);
        x.go(0, 0);
        x.pass(10);
    });

    private static int addRide(FairCircuit x) {
        return x.ride(0, 'a', 5, 8, 0, 1, 1, 0);
    }

    private static void nothingAtFirst() {
        Cases.answers("promise 1, new: the year", NEW, x -> x.year(), 1950);
        Cases.answers("promise 1, new: the hour", NEW, x -> x.hour(), 0);
        Cases.answers("promise 1, new: the wind", NEW, x -> x.wind(5), 0);
        Cases.answers("promise 1, new: the first family is 0", NEW, x -> x.family(false), 0);
        Cases.answers("promise 1, new: the first fair is 0", NEW, x -> x.fair('m', 0, 1, 20, 0), 0);
        Cases.refuses("promise 1, new: no family", NEW, x -> x.money(0), Checks.INDEX);
        Cases.refuses("promise 1, new: no fair", NEW, x -> x.start(0), Checks.INDEX);
        Cases.refuses("promise 1, new: no ride", NEW, x -> x.at(0), Checks.INDEX);
        Cases.answers("promise 43, checksum: nothing but the hour", NEW, x -> x.checksum(), 217L);
        Cases.answers("promise 44, isTrue: nothing there", NEW, x -> x.isTrue(), true);
        Cases.refuses("promise 42, meanTakings: no ride", FAIR, x -> x.meanTakings(), ArithmeticException.class);
        Cases.answers("promise 42, meanTakings: one ride", RIDE, x -> x.meanTakings(), 0.0);
    }

    private static void noFamily() {
        Supplier<FairCircuit> none = Checks.world(NEW, x -> x.fair('f', 10, 2, 100, 1));
        Cases.refuses("promise 3, money: there is no family", none, x -> x.money(0), Checks.INDEX);
        Cases.refuses("promise 4, fine: there is no family", none, x -> x.fine(0, 1), Checks.INDEX);
        Cases.refuses("promise 15, ride: there is no family", none, x -> addRide(x), Checks.INDEX);
        Cases.refuses("promise 25, right: there is no family", none, x -> x.right(0, 0, 0, 10), Checks.INDEX);
        Cases.refuses("promise 38, dies: there is no other family", FAMILY, x -> x.dies(0, 1), Checks.INDEX);
        Cases.refuses("promise 39, sell: there is no other family", RIDE, x -> x.sell(0, 1, 5), Checks.INDEX);
    }

    private static void noFair() {
        Supplier<FairCircuit> none = Checks.world(FAMILY, x -> addRide(x));
        Cases.refuses("promise 7, start: there is no fair", none, x -> x.start(0), Checks.INDEX);
        Cases.refuses("promise 8, isOpen: there is no fair", none, x -> x.isOpen(0), Checks.INDEX);
        Cases.refuses("promise 9, road: there is no other fair", FAIR, x -> x.road(0, 1, 5, 8), Checks.INDEX);
        Cases.refuses("promise 10, way: there is no fair", none, x -> x.way(0, 0, 8), Checks.INDEX);
        Cases.refuses("promise 20, go: there is no fair", none, x -> x.go(0, 0), Checks.INDEX);
        Cases.answers("promise 20, go: winter quarters need no fair", none, x -> x.go(0, -1), 0);
        Cases.refuses("promise 23, canMake: there is no fair", none, x -> x.canMake(0, 0, 0), Checks.INDEX);
        Cases.refuses("promise 24, tour: of nothing", none, x -> x.tour(0, 0), Checks.NO_ELEMENT);
        Cases.answers("promise 24, tour: one fair", RIDE, x -> x.tour(0, 0), 0);
        Cases.refuses("promise 24, tour: behind the only fair", RIDE, x -> x.tour(0, 1), Checks.NO_ELEMENT);
        Cases.refuses("promise 25, right: there is no fair", none, x -> x.right(0, 0, 0, 10), Checks.INDEX);
        Cases.refuses("promise 26, holder: there is no fair", none, x -> x.holder(0, 0), Checks.INDEX);
        Cases.refuses("promise 27, apply: there is no fair", none, x -> x.apply(0, 0), Checks.INDEX);
        Cases.refuses("promise 28, allot: there is no fair", none, x -> x.allot(0), Checks.INDEX);
        Cases.refuses("promise 29, standing: there is no fair", none, x -> x.standing(0, 0), Checks.INDEX);
        Cases.refuses("promise 30, placeOf: there is no fair", none, x -> x.placeOf(0, 0), Checks.INDEX);
        Cases.answers("promise 34, keeps: there is no fair", none, x -> x.keeps(0), 'l');
        Cases.refuses("promise 35, power: there is no fair", none, x -> x.power(0, 1), Checks.INDEX);
        Cases.refuses("promise 36, crowd: there is no fair", none, x -> x.crowd(0, 1, 1), Checks.INDEX);
        Cases.refuses("promise 41, filledShare: there is no fair", none, x -> x.filledShare(0), Checks.INDEX);
    }

    private static void noRide() {
        Cases.refuses("promise 16, part: there is no ride", FAIR, x -> x.part(0, 1), Checks.INDEX);
        Cases.refuses("promise 17, partsUp: there is no ride", FAIR, x -> x.partsUp(0), Checks.INDEX);
        Cases.refuses("promise 18, at: there is no ride", FAIR, x -> x.at(0), Checks.INDEX);
        Cases.refuses("promise 19, busy: there is no ride", FAIR, x -> x.busy(0), Checks.INDEX);
        Cases.refuses("promise 20, go: there is no ride", FAIR, x -> x.go(0, 0), Checks.INDEX);
        Cases.refuses("promise 21, up: there is no ride", FAIR, x -> x.up(0), Checks.INDEX);
        Cases.refuses("promise 22, down: there is no ride", FAIR, x -> x.down(0), Checks.INDEX);
        Cases.refuses("promise 23, canMake: there is no ride", FAIR, x -> x.canMake(0, 0, 0), Checks.INDEX);
        Cases.refuses("promise 24, tour: there is no ride", FAIR, x -> x.tour(0, 0), Checks.INDEX);
        Cases.refuses("promise 27, apply: there is no ride", FAIR, x -> x.apply(0, 0), Checks.INDEX);
        Cases.refuses("promise 30, placeOf: there is no ride", FAIR, x -> x.placeOf(0, 0), Checks.INDEX);
        Cases.refuses("promise 31, test: there is no ride", FAIR, x -> x.test(0), Checks.INDEX);
        Cases.refuses("promise 32, check: there is no ride", FAIR, x -> x.check(0), Checks.INDEX);
        Cases.refuses("promise 33, defect: there is no ride", FAIR, x -> x.defect(0, true), Checks.INDEX);
        Cases.refuses("promise 34, keeps: there is no ride", FAIR, x -> x.keeps(0), Checks.INDEX);
        Cases.refuses("promise 37, takings: there is no ride", FAIR, x -> x.takings(0), Checks.INDEX);
        Cases.refuses("promise 39, sell: there is no ride", FAIR, x -> x.sell(0, 0, 5), Checks.INDEX);
        Cases.refuses("promise 40, owner: there is no ride", FAIR, x -> x.owner(0, 0), Checks.INDEX);
        Cases.answers("promise 28, allot: no ride is told", RIDE, x -> x.allot(0), 0);
        Cases.refuses("promise 29, standing: no ride has ground", RIDE, x -> x.standing(0, 0), Checks.NO_ELEMENT);
        Cases.refuses("promise 30, placeOf: told, but not allotted", Checks.world(RIDE, x -> x.apply(0, 0)),
            x -> x.placeOf(0, 0), Checks.NO_ELEMENT);
        Cases.answers("promise 41, filledShare: no ride has ground", RIDE, x -> x.filledShare(0), 0f);
        Cases.answers("promise 36, crowd: no ride is there", Checks.world(RIDE, x -> x.pass(10 * 24 + 12)), x -> x.crowd(0, 2000, 99), 0);
    }

    private static void noRoadNoRight() {
        Supplier<FairCircuit> two = Checks.world(RIDE, x -> x.fair('f', 20, 1, 50, 0));
        Cases.refuses("promise 10, way: no road", two, x -> x.way(0, 1, 8), Checks.NO_ELEMENT);
        Cases.answers("promise 10, way: no road, to the same fair", two, x -> x.way(1, 1, 20), 0);
        Cases.answers("promise 9, road: the first one", two, x -> x.road(0, 1, 5, 8), false);
        Cases.answers("promise 20, go: no road, from winter quarters", two, x -> x.go(0, 1), 10);
        Cases.answers("promise 23, canMake: no road", two, x -> x.canMake(0, 0, 1), false);
        Cases.refuses("promise 24, tour: no road, no second fair", two, x -> x.tour(0, 1), Checks.NO_ELEMENT);
        Cases.refuses("promise 26, holder: no right", RIDE, x -> x.holder(0, 0), Checks.NO_ELEMENT);
    }

    private static void noPart() {
        Cases.answers("promise 16, part: the first one", RIDE, x -> x.part(0, 1), 1);
        Cases.answers("promise 17, partsUp: no part", RIDE, x -> x.partsUp(0), 0);
        Cases.refuses("promise 21, up: no part", BARE, x -> x.up(0), Checks.UNSUPPORTED);
        Cases.refuses("promise 22, down: no part", BARE, x -> x.down(0), Checks.UNSUPPORTED);
        Cases.answers("promise 34, keeps: no part", Checks.world(BARE, x -> { x.test(0); x.check(0); }), x -> x.keeps(0), 'b');
        Cases.answers("promise 20, go: no part", BARE, x -> x.go(0, -1), 0);
        Cases.answers("promise 36, crowd: the only ride has no part", Checks.world(BARE, x -> {
            x.pass(10 * 24 + 12 - 10);
            x.test(0);
            x.check(0);
            x.power(0, 500);
        }), x -> x.crowd(0, 50, 9), 0);
    }

    private static void families() {
        Supplier<FairCircuit> seven = Checks.world(NEW, x -> { for (int i = 0; i < 7; i++) x.family(true); });
        Supplier<FairCircuit> eight = Checks.world(seven, x -> x.family(false));
        Cases.answers("promise 2, family: the eighth is taken", seven, x -> x.family(false), 7);
        Cases.refuses("promise 2, family: the ninth is refused", eight, x -> x.family(false), Checks.STATE);
        Cases.refuses("promise 2, family: the ninth of the guild is refused", eight, x -> x.family(true), Checks.STATE);
        Cases.refuses("promise 2, family: the ninth is refused, dead ones too", Checks.world(eight, x -> x.dies(7, 0)),
            x -> x.family(true), Checks.STATE);
        Cases.answers("promise 3, money: of the eighth", eight, x -> x.money(7), 1000);
        Cases.answers("promise 43, checksum: eight families", eight, x -> x.checksum(), WholeTest.sum(
            1000, 1000, 1000, 1000, 1000, 1000, 1000, 1000, 0));
    }

    private static void fairs() {
        Supplier<FairCircuit> seven = Checks.world(NEW, x -> { for (int i = 0; i < 7; i++) x.fair('f', i, 1, 20, 0); });
        Supplier<FairCircuit> eight = Checks.world(seven, x -> x.fair('m', 0, 1, 20, 0));
        Cases.answers("promise 5, fair: the eighth is taken", seven, x -> x.fair('m', 0, 1, 20, 0), 7);
        Cases.refuses("promise 5, fair: the ninth is refused", eight, x -> x.fair('f', 0, 1, 20, 0), Checks.STATE);
        Cases.refuses("promise 5, fair: the ninth movable one is refused", eight, x -> x.fair('m', 0, 1, 20, 0), Checks.STATE);
        Cases.answers("promise 7, start: of the eighth", eight, x -> x.start(7), 98);
        Supplier<FairCircuit> row = Checks.world(FAMILY, x -> {
            addRide(x);
            for (int i = 0; i < 8; i++) x.fair('f', 7 * i, 1, 20, 0);
            for (int i = 0; i < 7; i++) x.road(i, i + 1, 200, 8);
        });
        Cases.answers("promise 10, way: by all eight fairs", row, x -> x.way(0, 7, 8), 70);
        Cases.answers("promise 10, way: by all eight fairs, back", row, x -> x.way(7, 0, 8), 70);
        Cases.answers("promise 24, tour: the last of all eight fairs", row, x -> x.tour(0, 7), 7);
        Cases.refuses("promise 24, tour: behind all eight fairs", row, x -> x.tour(0, 8), Checks.NO_ELEMENT);
    }

    private static void rides() {
        Supplier<FairCircuit> eleven = Checks.world(FAIR, x -> { for (int i = 0; i < 11; i++) addRide(x); });
        Supplier<FairCircuit> twelve = Checks.world(eleven, x -> addRide(x));
        Cases.answers("promise 15, ride: the twelfth is taken", eleven, x -> addRide(x), 11);
        Cases.refuses("promise 15, ride: the thirteenth is refused", twelve, x -> addRide(x), Checks.STATE);
        Cases.answers("promise 27, apply: all twelve", twelve, x -> {
            int told = 0;
            for (int i = 0; i < 12; i++) told = x.apply(0, i);
            return told;
        }, 12);
        Cases.answers("promise 38, dies: twelve rides for one heir", Checks.world(twelve, x -> x.family(true)), x -> x.dies(0, 1), 12);
        Cases.answers("promise 38, dies: no ride for the heir", Checks.world(FAMILY, x -> x.family(true)), x -> x.dies(0, 1), 0);
        Supplier<FairCircuit> filled = Checks.world(FAMILY, x -> {
            x.fair('f', 10, 1, 60, 0);
            for (int i = 0; i < 12; i++) x.ride(0, (char) ('a' + i % 3), 5, 8, 0, 1, 1, 0);
            for (int i = 0; i < 12; i++) x.apply(0, i);
            x.allot(0);
        });
        Cases.answers("promise 28, allot: likes leave no place for six of twelve", filled,
            x -> List.of(x.standing(0, 0), x.standing(0, 5), x.standing(0, 10), x.filledShare(0)), List.of(0, 1, 2, 0.5f));
    }

    private static void parts() {
        Supplier<FairCircuit> five = Checks.world(RIDE, x -> { for (int i = 0; i < 5; i++) x.part(0, 1 + i); });
        Supplier<FairCircuit> six = Checks.world(five, x -> x.part(0, 20));
        Cases.answers("promise 16, part: the sixth is taken", five, x -> x.part(0, 20), 6);
        Cases.refuses("promise 16, part: the seventh is refused", six, x -> x.part(0, 1), Checks.STATE);
        Supplier<FairCircuit> fiveUp = Checks.world(six, x -> {
            x.apply(0, 0);
            x.allot(0);
            x.go(0, 0);
            for (int i = 0; i < 5; i++) {
                x.pass(x.busy(0));
                x.up(0);
            }
            x.pass(x.busy(0));
            x.test(0);
            x.check(0);
        });
        Supplier<FairCircuit> sixUp = Checks.world(fiveUp, x -> { x.up(0); x.pass(20); x.test(0); x.check(0); });
        Cases.answers("promise 21, up: the sixth", fiveUp, x -> x.up(0), 6);
        Cases.answers("promise 19, busy: the hours of the sixth", Checks.world(fiveUp, x -> x.up(0)), x -> x.busy(0), 20);
        Cases.refuses("promise 21, up: behind the sixth", sixUp, x -> x.up(0), Checks.UNSUPPORTED);
        Cases.answers("promise 34, keeps: five of six are up", fiveUp, x -> x.keeps(0), 'b');
        Cases.answers("promise 34, keeps: all six are up", sixUp, x -> x.keeps(0), '-');
        Cases.answers("promise 22, down: all six", sixUp, x -> x.down(0), 17);
        Cases.answers("promise 22, down: five of six", fiveUp, x -> x.down(0), 7);
    }

    private static void rights() {
        Supplier<FairCircuit> nine = Checks.world(FAIR, x -> { for (int i = 0; i < 9; i++) x.right(0, 0, i, i + 1); });
        Supplier<FairCircuit> ten = Checks.world(nine, x -> x.right(0, 0, 20, 30));
        Cases.answers("promise 25, right: the tenth is taken", nine, x -> x.right(0, 0, 20, 30), 10);
        Cases.refuses("promise 25, right: the eleventh is refused", ten, x -> x.right(0, 0, 40, 50), Checks.STATE);
        Cases.answers("promise 25, right: ten at one fair, the first at another", Checks.world(ten, x -> x.fair('f', 20, 1, 50, 0)),
            x -> x.right(1, 0, 40, 50), 1);
        Supplier<FairCircuit> lost = Checks.world(nine, x -> { for (int i = 0; i < 3; i++) x.pass(8760); });
        Cases.answers("promise 25, right: the tenth behind nine lost ones", lost, x -> x.right(0, 0, 0, 30), 1);
        Cases.refuses("promise 25, right: the eleventh, nine of ten are lost", Checks.world(lost, x -> x.right(0, 0, 0, 30)),
            x -> x.right(0, 0, 40, 50), Checks.STATE);
        Cases.refuses("promise 25, right: the eleventh, all are lost",
            Checks.world(ten, x -> { for (int i = 0; i < 3; i++) x.pass(8760); }), x -> x.right(0, 0, 40, 50), Checks.STATE);
    }

    private static void books() {
        Supplier<FairCircuit> other = Checks.world(RIDE, x -> x.family(false));
        Cases.answers("promise 40, owner: the first one", RIDE, x -> x.owner(0, 0), 0);
        Cases.refuses("promise 40, owner: behind the only one", RIDE, x -> x.owner(0, 1), Checks.NO_ELEMENT);
        Supplier<FairCircuit> many = Checks.world(other, x -> { for (int i = 1; i < 500; i++) x.sell(0, i % 2, 1); });
        Cases.answers("promise 39, sell: the five hundredth", many, x -> x.sell(0, 0, 1), 500);
        Cases.answers("promise 40, owner: the last of five hundred", many, x -> x.owner(0, 499), 1);
        Cases.answers("promise 40, owner: behind the last of five hundred", many,
            x -> Checks.answer(() -> x.owner(0, 500)), "NoSuchElementException");
        Cases.answers("promise 44, isTrue: a book of five hundred", many, x -> x.isTrue(), true);
    }

    public static void main(String[] args) {
        nothingAtFirst();
        noFamily();
        noFair();
        noRide();
        noRoadNoRight();
        noPart();
        families();
        fairs();
        rides();
        parts();
        rights();
        books();
        Checks.end("FullTest");
    }
}
