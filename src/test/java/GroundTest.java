import java.util.function.Supplier;

/** Promises 25 to 30 and 41: rights, telling rides, allotting, and who stands where. */
public final class GroundTest {
    private static final Supplier<FairCircuit> CIRCUIT = Checks::circuit;

    /** Families 0 and 1, an outsider 2, and one fair of 100 feet on day 50 with a toll of 1. */
    private static FairCircuit ground() {
        FairCircuit x = new FairCircuit();
        x.family(true);
        x.family(true);
        x.family(false);
        x.fair('f', 50, 2, 100, 1);
        return x;
    }

    private static void add(FairCircuit x, int family, char kind, int frontage) {
        int ride = x.ride(family, kind, frontage, 8, 0, 1, 1, 0);
        x.apply(0, ride);
    }

    private static Object place(FairCircuit x, int ride) {
        Object got = Checks.answer(() -> x.placeOf(0, ride));
        return got.equals("NoSuchElementException") ? "none" : got;
    }

    private static void places(String what, FairCircuit x, int feet, Object... due) {
        Checks.is(what + ": feet", x.allot(0), feet);
        for (int i = 0; i < due.length; i++) Checks.is(what + ": place of " + i, place(x, i), due[i]);
        Checks.is(what + ": share", x.filledShare(0), feet / 100f);
        Checks.is(what + ": true", x.isTrue(), true);
    }

    private static void rights() {
        FairCircuit x = ground();
        Checks.is("25 first", x.right(0, 0, 0, 1), 1);
        Checks.is("25 beside it", x.right(0, 1, 1, 50), 2);
        Checks.is("25 to the end", x.right(0, 0, 60, 100), 3);
        Checks.is("26 first foot", x.holder(0, 0), 0);
        Checks.is("26 next foot", x.holder(0, 1), 1);
        Checks.is("26 last foot of it", x.holder(0, 49), 1);
        Checks.is("26 behind it", Checks.answer(() -> x.holder(0, 50)), "NoSuchElementException");
        Checks.is("26 ahead of it", Checks.answer(() -> x.holder(0, 59)), "NoSuchElementException");
        Checks.is("26 last foot", x.holder(0, 99), 0);
        Checks.refuses("26 no foot", CIRCUIT, Checks.INDEX, y -> y.holder(0, 100));
        Checks.refuses("26 no foot below", CIRCUIT, Checks.INDEX, y -> y.holder(0, -1));
        Checks.refuses("26 no fair", CIRCUIT, Checks.INDEX, y -> y.holder(2, 0));
        Checks.refuses("26 nobody's", CIRCUIT, Checks.NO_ELEMENT, y -> y.holder(0, 90));
        Checks.refuses("26 other fair", CIRCUIT, Checks.NO_ELEMENT, y -> y.holder(1, 40));
    }

    private static void wrongRights() {
        Checks.refuses("25 no fair", CIRCUIT, Checks.INDEX, y -> y.right(2, 0, 0, 10));
        Checks.refuses("25 no family", CIRCUIT, Checks.INDEX, y -> y.right(0, 4, -1, 10));
        Checks.refuses("25 below", CIRCUIT, Checks.ARGUMENT, y -> y.right(0, 0, -1, 10));
        Checks.refuses("25 behind", CIRCUIT, Checks.ARGUMENT, y -> y.right(0, 0, 95, 101));
        Checks.refuses("25 empty", CIRCUIT, Checks.ARGUMENT, y -> y.right(0, 0, 10, 10));
        Checks.refuses("25 turned round", CIRCUIT, Checks.ARGUMENT, y -> y.right(0, 0, 50, 45));
        Checks.refuses("25 far", CIRCUIT, Checks.ARGUMENT, y -> y.right(0, 0, Integer.MIN_VALUE, Integer.MAX_VALUE));
        Checks.refuses("25 first foot taken", CIRCUIT, Checks.UNSUPPORTED, y -> y.right(0, 0, 30, 41));
        Checks.refuses("25 last foot taken", CIRCUIT, Checks.UNSUPPORTED, y -> y.right(0, 1, 89, 100));
        Checks.refuses("25 within", CIRCUIT, Checks.UNSUPPORTED, y -> y.right(0, 0, 50, 51));
        Checks.refuses("25 round it", CIRCUIT, Checks.UNSUPPORTED, y -> y.right(0, 0, 0, 100));
        Checks.refuses("25 dead", CIRCUIT, Checks.UNSUPPORTED, y -> y.right(0, 3, 0, 10));
        Supplier<FairCircuit> ten = Checks.world(GroundTest::ground, y -> {
            for (int i = 0; i < 10; i++) y.right(0, 0, i, i + 1);
        });
        Checks.refuses("25 eleventh", ten, Checks.STATE, y -> y.right(0, 0, 20, 30));
        Checks.refuses("25 eleventh overlaps", ten, Checks.UNSUPPORTED, y -> y.right(0, 0, 9, 30));
        Supplier<FairCircuit> tenLost = Checks.world(ten, y -> { for (int i = 0; i < 3; i++) y.pass(8760); });
        Checks.refuses("25 eleventh, all lost", tenLost, Checks.STATE, y -> y.right(0, 0, 0, 30));
    }

    private static void losing() {
        FairCircuit x = ground();
        x.right(0, 0, 0, 40);
        x.pass(8760);
        x.right(0, 1, 40, 60);
        x.pass(8760);
        x.pass(8759);
        Checks.is("25 held to the end of the second year", x.holder(0, 0), 0);
        x.pass(1);
        Checks.is("25 lost as the third begins", Checks.answer(() -> x.holder(0, 0)), "NoSuchElementException");
        Checks.is("25 given later", x.holder(0, 40), 1);
        Checks.is("25 over a lost one", x.right(0, 2, 10, 30), 2);
        FairCircuit z = ground();
        z.right(0, 0, 0, 40);
        add(z, 0, 'a', 20);
        z.pass(8760);
        z.pass(8760);
        z.apply(0, 0);
        z.allot(0);
        z.pass(8760);
        z.pass(8760);
        Checks.is("25 used last in 1952", z.holder(0, 0), 0);
        z.apply(0, 0);
        z.sell(0, 1, 5);
        Checks.is("28 not by it", z.allot(0), 20);
        z.pass(8760);
        Checks.is("25 not used by another's ride", Checks.answer(() -> z.holder(0, 0)), "NoSuchElementException");
    }

    private static void lostRightTakesNobody() {
        FairCircuit x = ground();
        x.right(0, 0, 50, 100);
        for (int i = 0; i < 3; i++) x.pass(8760);
        add(x, 0, 'a', 20);
        places("28 lost right", x, 20, 0);
    }

    private static void telling() {
        FairCircuit x = Checks.circuit();
        Checks.is("27 first", x.apply(0, 3), 1);
        Checks.is("27 second", x.apply(0, 1), 2);
        Checks.is("27 other fair", x.apply(1, 3), 1);
        x.pass(8760);
        Checks.is("27 next year", x.apply(0, 3), 1);
        x.allot(0);
        x.pass(8760);
        Checks.is("27 the year behind allotting", x.apply(0, 3), 1);
        x.pass(8000);
        Checks.is("27 behind its end", x.apply(0, 1), 2);
        Supplier<FairCircuit> told = Checks.world(CIRCUIT, y -> y.apply(0, 0));
        Supplier<FairCircuit> allotted = Checks.world(told, y -> y.allot(0));
        Checks.refuses("27 no fair", CIRCUIT, Checks.INDEX, y -> y.apply(2, 0));
        Checks.refuses("27 no ride", CIRCUIT, Checks.INDEX, y -> y.apply(0, 4));
        Checks.refuses("27 told", told, Checks.UNSUPPORTED, y -> y.apply(0, 0));
        Checks.refuses("27 allotted", allotted, Checks.UNSUPPORTED, y -> y.apply(0, 1));
    }

    private static void whenToAllot() {
        FairCircuit x = ground();
        add(x, 0, 'a', 20);
        x.pass(50 * 24 + 11);
        Checks.is("28 in the hour ahead", x.allot(0), 20);
        Checks.is("28 nobody told", Checks.circuit().allot(0), 0);
        Supplier<FairCircuit> open = Checks.world(GroundTest::ground, y -> y.pass(50 * 24 + 12));
        Supplier<FairCircuit> over = Checks.world(GroundTest::ground, y -> y.pass(8000));
        Checks.refuses("28 no fair", CIRCUIT, Checks.INDEX, y -> y.allot(2));
        Checks.refuses("28 no fair below", CIRCUIT, Checks.INDEX, y -> y.allot(-1));
        Checks.refuses("28 open", open, Checks.UNSUPPORTED, y -> y.allot(0));
        Checks.refuses("28 over", over, Checks.UNSUPPORTED, y -> y.allot(0));
        Checks.refuses("28 twice", Checks.world(CIRCUIT, y -> y.allot(0)), Checks.UNSUPPORTED, y -> y.allot(0));
        FairCircuit z = over.get();
        z.pass(760);
        Checks.is("28 next year", z.allot(0), 0);
    }

    private static void byRights() {
        FairCircuit x = ground();
        x.right(0, 0, 60, 100);
        x.right(0, 1, 10, 35);
        add(x, 0, 'a', 25);
        add(x, 0, 'b', 20);
        add(x, 0, 'c', 15);
        add(x, 1, 'd', 25);
        // 1 does not lie in the right behind 0, 2 does; 1 goes with the others, between the rights.
        places("28 by rights", x, 85, 60, 35, 85, 10);
        Checks.is("28 toll", x.money(0), 1000 - 25 - 20 - 15);
        Checks.is("28 toll of the other", x.money(1), 975);
        FairCircuit y = ground();
        y.right(0, 0, 60, 100);
        y.right(0, 0, 10, 30);
        add(y, 0, 'a', 25);
        add(y, 0, 'b', 20);
        places("28 rights by their first foot", y, 45, 60, 10);
        FairCircuit z = ground();
        z.right(0, 0, 0, 60);
        add(z, 0, 'a', 10);
        add(z, 0, 'a', 10);
        add(z, 0, 'b', 30);
        // 1 may not by its likes, 2 is looked at there; 1 goes behind the right that is used.
        places("28 likes in a right", z, 50, 0, 60, 10);
        FairCircuit left = ground();
        left.right(0, 0, 0, 20);
        left.right(0, 0, 50, 80);
        add(left, 0, 'a', 25);
        places("28 looked at in the next right", left, 25, 50);
        FairCircuit beside = ground();
        beside.right(0, 0, 0, 50);
        add(beside, 0, 'a', 20);
        add(beside, 0, 'b', 30);
        places("28 the right is full", beside, 50, 0, 20);
        FairCircuit twoFairs = ground();
        twoFairs.fair('f', 60, 1, 50, 0);
        add(twoFairs, 0, 'a', 20);
        twoFairs.apply(1, 0);
        twoFairs.allot(0);
        Checks.is("28 ground at two fairs", twoFairs.allot(1), 20);
    }

    private static void toOthers() {
        FairCircuit x = ground();
        x.right(0, 0, 0, 30);
        add(x, 2, 'a', 20);
        add(x, 1, 'b', 20);
        add(x, 2, 'c', 20);
        add(x, 1, 'd', 20);
        // The right is not used: its ground is free. The guild comes first, else as they were told.
        places("28 guild first", x, 80, 40, 0, 60, 20);
        FairCircuit y = ground();
        y.right(0, 0, 20, 40);
        add(y, 0, 'a', 10);
        add(y, 2, 'b', 25);
        add(y, 2, 'c', 20);
        add(y, 2, 'd', 36);
        places("28 a used right is not free", y, 55, 20, 40, 0, "none");
        FairCircuit z = ground();
        add(z, 0, 'a', 20);
        add(z, 0, 'a', 20);
        add(z, 0, 'a', 20);
        add(z, 0, 'b', 29);
        // 30 feet between likes: the third has no place, the other kind fits in between.
        places("28 likes", z, 69, 0, 50, "none", 20);
        FairCircuit w = ground();
        add(w, 0, 'a', 20);
        add(w, 0, 'b', 30);
        add(w, 0, 'a', 50);
        places("28 just 30 feet, to the end", w, 100, 0, 20, 50);
        FairCircuit v = ground();
        add(v, 0, 'a', 21);
        add(v, 0, 'a', 50);
        places("28 nearer than 30 feet", v, 21, 0, "none");
        FairCircuit u = ground();
        u.right(0, 0, 50, 60);
        add(u, 0, 'a', 10);
        add(u, 1, 'a', 20);
        add(u, 1, 'a', 10);
        places("28 likes ahead and behind", u, 40, 50, 0, 90);
        FairCircuit t = ground();
        t.right(0, 0, 50, 60);
        add(t, 0, 'a', 10);
        add(t, 1, 'a', 21);
        places("28 a foot too near ahead", t, 10, 50, "none");
    }

    private static void unusedRightOfAnEarlierYear() {
        FairCircuit x = ground();
        x.right(0, 0, 0, 40);
        add(x, 0, 'a', 20);
        x.allot(0);
        x.pass(8760);
        x.ride(2, 'b', 20, 8, 0, 1, 1, 0);
        x.apply(0, 1);
        Checks.is("28 used last year alone", x.allot(0), 20);
        Checks.is("30 used last year alone", x.placeOf(0, 1), 0);
    }

    private static void standing() {
        FairCircuit x = ground();
        x.right(0, 0, 30, 100);
        add(x, 0, 'a', 20);
        Checks.is("29 ahead", Checks.answer(() -> x.standing(0, 30)), "NoSuchElementException");
        Checks.is("41 ahead", x.filledShare(0), 0f);
        x.allot(0);
        Checks.is("29 first foot", x.standing(0, 30), 0);
        Checks.is("29 last foot", x.standing(0, 49), 0);
        Checks.is("29 behind", Checks.answer(() -> x.standing(0, 50)), "NoSuchElementException");
        Checks.is("29 before", Checks.answer(() -> x.standing(0, 29)), "NoSuchElementException");
        Checks.is("30 place", x.placeOf(0, 0), 30);
        Checks.is("41 share", x.filledShare(0), 0.2f);
        x.pass(8760);
        Checks.is("29 next year", Checks.answer(() -> x.standing(0, 30)), "NoSuchElementException");
        Checks.is("30 next year", place(x, 0), "none");
        Checks.is("41 next year", x.filledShare(0), 0f);
        FairCircuit third = new FairCircuit();
        third.family(true);
        third.fair('f', 3, 1, 60, 0);
        add(third, 0, 'a', 20);
        third.allot(0);
        Checks.is("41 a third", third.filledShare(0), 20f / 60f);
    }

    private static void wrongStanding() {
        Supplier<FairCircuit> opened = Checks::opened;
        Checks.refuses("29 no fair", opened, Checks.INDEX, y -> y.standing(2, 0));
        Checks.refuses("29 no foot", opened, Checks.INDEX, y -> y.standing(0, 100));
        Checks.refuses("29 no foot below", opened, Checks.INDEX, y -> y.standing(0, -1));
        Checks.refuses("29 none", opened, Checks.NO_ELEMENT, y -> y.standing(0, 30));
        Checks.refuses("30 no fair", opened, Checks.INDEX, y -> y.placeOf(-1, 0));
        Checks.refuses("30 no ride", opened, Checks.INDEX, y -> y.placeOf(0, 4));
        Checks.refuses("30 none", opened, Checks.NO_ELEMENT, y -> y.placeOf(0, 1));
        Checks.refuses("30 other fair", opened, Checks.NO_ELEMENT, y -> y.placeOf(1, 0));
        Checks.refuses("41 no fair", opened, Checks.INDEX, y -> y.filledShare(2));
        Checks.refuses("41 no fair below", opened, Checks.INDEX, y -> y.filledShare(-1));
    }

    public static void main(String[] args) {
        rights();
        wrongRights();
        losing();
        lostRightTakesNobody();
        telling();
        whenToAllot();
        byRights();
        toOthers();
        unusedRightOfAnEarlierYear();
        standing();
        wrongStanding();
        Checks.end("GroundTest");
    }
}
