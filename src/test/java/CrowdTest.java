import java.math.BigInteger;
import java.util.ArrayList;
import java.util.List;
import java.util.function.Supplier;

/** Where people, their money, the room and the power end, and what a sale and a death move. */
public final class CrowdTest {
    /**
     * An open fair of such a power, never told if it is 0, with rides of such a power, price and room
     * beside each other that nothing keeps.
     */
    private static Supplier<FairCircuit> row(int power, int[]... rides) {
        return () -> {
            FairCircuit x = new FairCircuit();
            x.family(true);
            x.fair('f', 5, 2, 200, 0);
            if (power > 0) x.power(0, power);
            for (int i = 0; i < rides.length; i++) {
                x.ride(0, (char) ('a' + i % 5), 10, 8, rides[i][0], rides[i][1], rides[i][2], 12);
                x.part(i, 1);
                x.apply(0, i);
                x.go(i, 0);
            }
            x.allot(0);
            x.pass(10);
            for (int i = 0; i < rides.length; i++) x.up(i);
            x.pass(5 * 24 + 12 - 10);
            for (int i = 0; i < rides.length; i++) {
                x.test(i);
                x.check(i);
            }
            return x;
        };
    }

    private static int[] r(int power, int price, int room) { return new int[] {power, price, room}; }

    /** Such a crowd leaves so much at each ride. */
    private static void crowd(String name, Supplier<FairCircuit> world, int people, int money, Integer... due) {
        Cases.answers("promise 36, crowd: " + name, world, x -> {
            int all = x.crowd(0, people, money);
            List<Integer> takings = new ArrayList<>();
            for (int i = 0; i < due.length; i++) takings.add(x.takings(i));
            int sum = 0;
            for (int taken : takings) sum += taken;
            return sum == all ? takings : takings + " but in all " + all;
        }, List.of(due));
    }

    private static void soManyPeople() {
        crowd("one person less than there is room", row(0, r(0, 2, 10)), 9, 5, 18);
        crowd("as many people as there is room", row(0, r(0, 2, 10)), 10, 5, 20);
        crowd("one person more than there is room", row(0, r(0, 2, 10)), 11, 5, 20);
        crowd("room for one", row(0, r(0, 20, 1)), 2000, 99, 20);
        crowd("room for 500", row(0, r(0, 20, 500)), 2000, 99, 10000);
        crowd("room for 500, and 499 people", row(0, r(0, 20, 500)), 499, 99, 9980);
        crowd("one person pays once at each ride", row(0, r(0, 20, 500), r(0, 20, 500)), 1, 99, 20, 20);
        crowd("2000 people at five rides", row(0, r(0, 20, 500), r(0, 20, 500), r(0, 20, 500), r(0, 20, 500), r(0, 20, 500)),
            2000, 20, 10000, 10000, 10000, 10000, 0);
    }

    private static void soMuchMoney() {
        crowd("just the price", row(0, r(0, 5, 10)), 3, 5, 15);
        crowd("less than the price by 1", row(0, r(0, 5, 10)), 3, 4, 0);
        crowd("more than the price by 1", row(0, r(0, 5, 10)), 3, 6, 15);
        crowd("the least money, the least price", row(0, r(0, 1, 10)), 3, 1, 3);
        crowd("the most money, the highest price", row(0, r(0, 20, 10)), 3, 99, 60);
        crowd("what is left is just the price", row(0, r(0, 5, 10), r(0, 3, 10)), 3, 8, 15, 9);
        crowd("what is left is less than the price by 1", row(0, r(0, 5, 10), r(0, 4, 10)), 3, 8, 15, 0);
        crowd("nothing is left", row(0, r(0, 5, 10), r(0, 1, 10)), 3, 5, 15, 0);
        crowd("99 ends at the fifth of 20", row(0, r(0, 20, 9), r(0, 20, 9), r(0, 20, 9), r(0, 20, 9), r(0, 20, 9)),
            1, 99, 20, 20, 20, 20, 0);
        crowd("100 would not, 99 has 19 left", row(0, r(0, 20, 9), r(0, 20, 9), r(0, 20, 9), r(0, 20, 9), r(0, 19, 9)),
            1, 99, 20, 20, 20, 20, 19);
    }

    private static void theRichestFirst() {
        // Of four with 6, two pay 4: two of 6 and two of 2 are left. The two of 6 pay next.
        crowd("those with the most money first", row(0, r(0, 4, 2), r(0, 4, 2), r(0, 2, 9)), 4, 6, 8, 8, 8);
        crowd("those with the most money first, one more", row(0, r(0, 4, 2), r(0, 2, 3), r(0, 4, 9)), 4, 6, 8, 6, 8);
        crowd("then those with less, as there is room", row(0, r(0, 4, 2), r(0, 2, 4), r(0, 2, 9)), 4, 6, 8, 8, 4);
        crowd("who paid is not asked again at the same ride", row(0, r(0, 1, 9)), 4, 9, 4);
    }

    private static void soMuchPower() {
        crowd("just the power of one", row(20, r(20, 1, 9)), 9, 9, 9);
        crowd("less than the power of one by 1", row(19, r(20, 1, 9)), 9, 9, 0);
        crowd("just the power of both", row(50, r(20, 1, 9), r(30, 1, 9)), 9, 9, 9, 9);
        crowd("less than the power of both by 1", row(49, r(20, 1, 9), r(30, 1, 9)), 9, 9, 9, 0);
        crowd("enough for one behind one that is left out", row(30, r(20, 1, 9), r(30, 1, 9), r(10, 1, 9)), 9, 9, 9, 0, 9);
        crowd("less by 1 for one behind one that is left out", row(29, r(20, 1, 9), r(30, 1, 9), r(10, 1, 9)), 9, 9, 9, 0, 0);
        crowd("the first is left out", row(19, r(20, 1, 9), r(19, 1, 9)), 9, 9, 0, 9);
        crowd("power that was never told, and a ride without", row(0, r(0, 1, 9), r(1, 1, 9)), 9, 9, 9, 0);
        crowd("seven of 50 for 500", row(500, r(50, 1, 9), r(50, 1, 9), r(50, 1, 9), r(50, 1, 9), r(50, 1, 9),
            r(50, 1, 9), r(50, 1, 9)), 9, 9, 9, 9, 9, 9, 9, 9, 9);
        Supplier<FairCircuit> kept = Checks.world(row(20, r(20, 1, 9), r(20, 1, 9)), x -> x.defect(0, true));
        crowd("one that is kept needs no power", kept, 9, 9, 0, 9);
        Supplier<FairCircuit> noMore = Checks.world(row(20, r(20, 1, 9), r(1, 1, 9)), x -> x.power(0, 0));
        crowd("power told anew, 0", noMore, 9, 9, 0, 0);
    }

    private static void money(String name, Supplier<FairCircuit> world, int people, int each, int due) {
        Cases.answers("promise 36, crowd: " + name, world, x -> {
            x.crowd(0, people, each);
            return x.money(0);
        }, due);
    }

    private static void twelveRides() {
        int[][] twelve = new int[12][];
        for (int i = 0; i < 12; i++) twelve[i] = r(1, 1 + i, 9);
        Supplier<FairCircuit> all = row(12, twelve);
        crowd("all twelve rides run", all, 1, 78, 1, 2, 3, 4, 5, 6, 7, 8, 9, 10, 11, 12);
        crowd("all twelve rides but the last have the power", row(11, twelve), 1, 78, 1, 2, 3, 4, 5, 6, 7, 8, 9, 10, 11, 0);
        Cases.answers("promise 43, checksum: all twelve rides, wrapped around", Checks.world(all, x -> x.crowd(0, 1, 78)),
            x -> x.checksum(), unboundedSum(all.get()).longValue());
        Cases.answers("promise 43, checksum: the sum of twelve rides is no long", all,
            x -> unboundedSum(x).bitLength() > 64, true);
    }

    /** The checksum with one person of 78 at the twelve rides, as a number that has no end. */
    private static BigInteger unboundedSum(FairCircuit x) {
        List<Integer> terms = new ArrayList<>(List.of(1000 + 78 - 12));
        for (int i = 0; i < 12; i++) terms.addAll(List.of(1 + i, 1));
        for (int foot = 0; foot < 200; foot++) {
            int at = foot;
            if (Checks.answer(() -> x.standing(0, at)) instanceof Integer ride && x.placeOf(0, ride) == foot) {
                terms.addAll(List.of(ride, foot));
            }
        }
        terms.add(5 * 24 + 12);
        BigInteger sum = BigInteger.valueOf(7);
        for (int term : terms) sum = sum.multiply(BigInteger.valueOf(31)).add(BigInteger.valueOf(term));
        return sum;
    }

    private static void families() {
        money("the family gets it, and pays 1 for each power", row(50, r(50, 2, 9)), 9, 9, 1000 + 18 - 50);
        money("the family pays for the power, though nobody does", row(50, r(50, 2, 9)), 9, 1, 950);
        money("the family pays no power for a ride left out", row(49, r(50, 2, 9)), 9, 9, 1000);
        money("the family pays no power for a ride that is kept", Checks.world(row(50, r(50, 2, 9)), x -> x.defect(0, true)), 9, 9, 1000);
        money("the family pays for power below 0", Checks.world(row(50, r(50, 2, 9)), x -> { x.fine(0, 999); }), 9, 1, -49);
        Cases.answers("promise 37, takings: without the power", Checks.world(row(50, r(50, 2, 9)), x -> x.crowd(0, 9, 9)), x -> x.takings(0), 18);
        Cases.answers("promise 37, takings: two days in all", Checks.world(row(50, r(50, 2, 9)), x -> {
            x.crowd(0, 9, 9);
            x.pass(24);
            x.check(0);
            x.crowd(0, 1, 9);
        }), x -> x.takings(0), 20);
        Cases.answers("promise 42, meanTakings: a third", Checks.world(row(0, r(0, 1, 5), r(0, 1, 1), r(0, 1, 1)), x -> x.crowd(0, 5, 1)),
            x -> x.meanTakings(), 5.0 / 3.0);
    }

    /** Room is for people in a day: the ride goes from one fair to the other within it. */
    private static void roomOfADay() {
        Supplier<FairCircuit> brought = Checks.world(row(0, r(0, 2, 10)), x -> {
            x.fair('f', 5, 2, 50, 0);
            x.road(0, 1, 1, 8);
        });
        Cases.answers("promise 36, crowd: another fair on the same day is another crowd", brought, x -> {
            x.crowd(0, 4, 9);
            return x.crowd(1, 4, 9);
        }, 0);
        Cases.answers("promise 36, crowd: a ride that is at another fair does not run", Checks.world(brought, x -> {
            x.down(0);
            x.go(0, 1);
            x.pass(1);
        }), x -> x.crowd(0, 4, 9), 0);
        Supplier<FairCircuit> first = Checks.world(threeFairs(), x -> { x.crowd(0, 4, 9); bring(x, 1); });
        Cases.answers("promise 36, crowd: room for 10 in a day, 4 were at another fair, 5 come", first, x -> x.crowd(1, 5, 9), 10);
        Cases.answers("promise 36, crowd: room for 10 in a day, 4 were at another fair, 6 come", first, x -> x.crowd(1, 6, 9), 12);
        Cases.answers("promise 36, crowd: room for 10 in a day, 4 were at another fair, 7 come", first, x -> x.crowd(1, 7, 9), 12);
        Supplier<FairCircuit> second = Checks.world(first, x -> { x.crowd(1, 5, 9); bring(x, 2); });
        Cases.answers("promise 36, crowd: room for 10 in a day, 4 and 5 were at two fairs, 1 comes", second, x -> x.crowd(2, 1, 9), 2);
        Cases.answers("promise 36, crowd: room for 10 in a day, 4 and 5 were at two fairs, 2 come", second, x -> x.crowd(2, 2, 9), 2);
        Cases.answers("promise 36, crowd: room for 10 in the next day", Checks.world(second, x -> { x.pass(24); x.check(0); }),
            x -> x.crowd(2, 11, 9), 20);
    }

    private static void bring(FairCircuit x, int fair) {
        x.down(0);
        x.go(0, fair);
        x.pass(1);
        x.up(0);
        x.pass(1);
    }

    private static Supplier<FairCircuit> threeFairs() {
        return () -> {
            FairCircuit x = new FairCircuit();
            x.family(true);
            for (int i = 0; i < 3; i++) x.fair('f', 5, 2, 50, 0);
            for (int i = 0; i < 2; i++) x.road(i, i + 1, 1, 8);
            x.ride(0, 'a', 10, 8, 0, 2, 10, 12);
            x.part(0, 1);
            for (int i = 0; i < 3; i++) x.apply(i, 0);
            for (int i = 0; i < 3; i++) x.allot(i);
            x.go(0, 0);
            x.pass(10);
            x.up(0);
            x.pass(5 * 24 + 12 - 10);
            x.test(0);
            x.check(0);
            return x;
        };
    }

    private static void fines() {
        Supplier<FairCircuit> poor = Checks.world(Checks::circuit, x -> x.fine(0, 999));
        Cases.answers("promise 4, fine: the last money", poor, x -> x.fine(0, 1), 0);
        Cases.answers("promise 4, fine: below 0", poor, x -> x.fine(0, 2), -1);
        Cases.answers("promise 4, fine: far below 0", Checks.world(poor, x -> { for (int i = 0; i < 400; i++) x.fine(0, 999); }),
            x -> x.fine(0, 999), 1 - 401 * 999);
        Cases.answers("promise 3, money: below 0", Checks.world(poor, x -> x.fine(0, 999)), x -> x.money(0), -998);
    }

    private static void sales() {
        Supplier<FairCircuit> circuit = Checks::circuit;
        Cases.answers("promise 39, sell: for nothing", circuit, x -> {
            x.sell(0, 1, 0);
            return List.of(x.money(0), x.money(1));
        }, List.of(1000, 1000));
        Cases.answers("promise 39, sell: for 9999", circuit, x -> {
            x.sell(0, 1, 9999);
            return List.of(x.money(0), x.money(1));
        }, List.of(10999, -8999));
        Cases.refuses("promise 39, sell: to its own family", circuit, x -> x.sell(0, 0, 5), Checks.UNSUPPORTED);
        Cases.refuses("promise 39, sell: to one that died out", circuit, x -> x.sell(0, 3, 5), Checks.UNSUPPORTED);
        Cases.answers("promise 39, sell: back to the first one", Checks.world(circuit, x -> x.sell(0, 1, 5)), x -> x.sell(0, 0, 5), 2);
        Cases.refuses("promise 39, sell: to its new family", Checks.world(circuit, x -> x.sell(0, 1, 5)), x -> x.sell(0, 1, 5), Checks.UNSUPPORTED);
        Cases.answers("promise 40, owner: one that comes back is there twice", Checks.world(circuit, x -> { x.sell(0, 1, 5); x.sell(0, 0, 5); }),
            x -> List.of(x.owner(0, 0), x.owner(0, 1), x.owner(0, 2)), List.of(0, 1, 0));
        Cases.answers("promise 44, isTrue: sold", Checks.world(circuit, x -> x.sell(0, 1, 5)), x -> x.isTrue(), true);
    }

    private static void deaths() {
        Supplier<FairCircuit> circuit = Checks::circuit;
        Cases.refuses("promise 38, dies: both are the same", circuit, x -> x.dies(1, 1), Checks.UNSUPPORTED);
        Cases.refuses("promise 38, dies: it died out", circuit, x -> x.dies(3, 1), Checks.UNSUPPORTED);
        Cases.refuses("promise 38, dies: the heir died out", circuit, x -> x.dies(1, 3), Checks.UNSUPPORTED);
        Cases.refuses("promise 38, dies: both are the same one that died out", circuit, x -> x.dies(3, 3), Checks.UNSUPPORTED);
        Cases.answers("promise 38, dies: money below 0", Checks.world(circuit, x -> { x.fine(1, 999); x.fine(1, 999); }), x -> {
            x.dies(1, 0);
            return List.of(x.money(0), x.money(1));
        }, List.of(2, 0));
        Supplier<FairCircuit> dead = Checks.world(circuit, x -> x.dies(1, 0));
        Cases.answers("promise 38, dies: the rights are the heir's, the first foot", dead, x -> x.holder(0, 40), 0);
        Cases.answers("promise 38, dies: the rights are the heir's, the last foot", dead, x -> x.holder(0, 89), 0);
        Cases.answers("promise 38, dies: the rides of the heir", circuit, x -> x.dies(1, 0), 3);
        Cases.answers("promise 40, owner: the heir comes behind the family", dead, x -> List.of(x.owner(1, 0), x.owner(1, 1)), List.of(1, 0));
        Cases.refuses("promise 40, owner: the heir's own ride has one owner", dead, x -> x.owner(0, 1), Checks.NO_ELEMENT);
        Cases.refuses("promise 15, ride: of a family that died out", dead, x -> x.ride(1, 'a', 20, 10, 10, 2, 50, 6), Checks.UNSUPPORTED);
        Cases.refuses("promise 25, right: of a family that died out", dead, x -> x.right(0, 1, 0, 10), Checks.UNSUPPORTED);
        Cases.refuses("promise 39, sell: to a family that died out now", dead, x -> x.sell(0, 1, 5), Checks.UNSUPPORTED);
        Cases.refuses("promise 38, dies: it died out now", dead, x -> x.dies(1, 2), Checks.UNSUPPORTED);
        Cases.refuses("promise 38, dies: the heir died out now", dead, x -> x.dies(2, 1), Checks.UNSUPPORTED);
        Cases.answers("promise 38, dies: the heir dies out in turn", dead, x -> x.dies(0, 2), 4);
        Cases.answers("promise 44, isTrue: inherited", dead, x -> x.isTrue(), true);
        Cases.answers("promise 28, allot: in the right that was inherited", Checks.world(dead, x -> { x.apply(0, 0); x.allot(0); }),
            x -> x.placeOf(0, 0), 40);
    }

    public static void main(String[] args) {
        soManyPeople();
        soMuchMoney();
        theRichestFirst();
        soMuchPower();
        twelveRides();
        families();
        roomOfADay();
        fines();
        sales();
        deaths();
        Checks.end("CrowdTest");
    }
}
