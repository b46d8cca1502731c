import java.util.ArrayList;
import java.util.Arrays;
import java.util.NoSuchElementException;

public final class FairCircuit {
    private static final int NONE = -1;

    private static final int FIRST_YEAR = 1950;
    private static final int LAST_YEAR = 1999;
    private static final int DAY_HOURS = 24;
    private static final int YEAR_DAYS = 365;
    private static final int YEAR_HOURS = YEAR_DAYS * DAY_HOURS;
    private static final int OPENING_HOUR = 12;
    private static final int CLOSING_HOUR = 22;

    private static final int MOST_FAMILIES = 8;
    private static final int MOST_FAIRS = 8;
    private static final int MOST_RIDES = 12;
    private static final int MOST_PARTS = 6;
    private static final int MOST_RIGHTS = 10;
    // Each call puts one owner at most into a book, and an object is used for 512 calls.
    private static final int MOST_OWNERS = 512;

    private static final int LOWEST = 8;
    private static final int HIGHEST = 20;
    private static final int STRONGEST_WIND = 12;
    private static final int MOST_PEOPLE = 2000;
    private static final int MOST_CROWD_MONEY = 99;

    private static final int FIRST_MONEY = 1000;
    private static final int LIKES_FEET = 30;
    private static final int MILES_IN_AN_HOUR = 20;
    private static final int HOURS_FROM_WINTER = 10;
    private static final int TEST_HOLDS_DAYS = 364;
    private static final int YEARS_TO_LOSS = 3;

    private final ArrayList<Family> families = new ArrayList<>();
    private final ArrayList<Fair> fairs = new ArrayList<>();
    private final ArrayList<Ride> rides = new ArrayList<>();
    private final Roads roads = new Roads();
    private final Purses purses = new Purses();
    private final Tour tour = new Tour();
    private int nowYear = FIRST_YEAR;
    private int nowEaster = easterDay(FIRST_YEAR);
    private int nowHour = 0;
    private int nowWind = 0;

    public FairCircuit() {
    }

    // ---- families

    public int family(boolean isGuild) throws IllegalStateException {
        if (families.size() >= MOST_FAMILIES) {
            throw new IllegalStateException("there are 8 families");
        }
        families.add(new Family(isGuild));
        return families.size() - 1;
    }

    public int money(int family) throws IndexOutOfBoundsException {
        return familyOf(family).money;
    }

    public int fine(int family, int amount) throws IndexOutOfBoundsException, IllegalArgumentException {
        Family fined = familyOf(family);
        refuseOutside(amount, 1, 999);
        fined.money -= amount;
        return fined.money;
    }

    public int dies(int family, int heir) throws IndexOutOfBoundsException, UnsupportedOperationException {
        Family dead = familyOf(family);
        Family next = familyOf(heir);
        if (family == heir || dead.isDead || next.isDead) {
            throw new UnsupportedOperationException("it cannot be inherited so");
        }
        dead.isDead = true;
        next.money += dead.money;
        dead.money = 0;
        inheritRights(family, heir);
        inheritRides(family, heir);
        return ridesOf(heir);
    }

    private void inheritRights(int family, int heir) {
        for (int i = 0; i < fairs.size(); i++) {
            ArrayList<Right> rights = fairs.get(i).rights;
            for (int j = 0; j < rights.size(); j++) {
                Right right = rights.get(j);
                if (right.family == family) {
                    right.family = heir;
                }
            }
        }
    }

    private void inheritRides(int family, int heir) {
        for (int i = 0; i < rides.size(); i++) {
            Ride ride = rides.get(i);
            if (ride.family == family) {
                ride.handTo(heir);
            }
        }
    }

    private int ridesOf(int family) {
        int count = 0;
        for (int i = 0; i < rides.size(); i++) {
            if (rides.get(i).family == family) {
                count++;
            }
        }
        return count;
    }

    private Family familyOf(int family) {
        if (family < 0 || family >= families.size()) {
            throw new IndexOutOfBoundsException("no such family");
        }
        return families.get(family);
    }

    // ---- time, fairs and the wind

    public int fair(char charter, int day, int days, int ground, int toll)
            throws IllegalArgumentException, IllegalStateException {
        if (charter == 'f') {
            refuseOutside(day, 0, 350);
        } else if (charter == 'm') {
            refuseOutside(day, -60, 200);
        } else {
            throw new IllegalArgumentException("no such charter");
        }
        refuseOutside(days, 1, 9);
        refuseOutside(ground, 20, 200);
        refuseOutside(toll, 0, 99);
        if (fairs.size() >= MOST_FAIRS) {
            throw new IllegalStateException("there are 8 fairs");
        }
        fairs.add(new Fair(charter == 'm', day, days, ground, toll));
        return fairs.size() - 1;
    }

    public int easter(int year) throws IllegalArgumentException {
        refuseOutside(year, FIRST_YEAR, LAST_YEAR);
        return easterDay(year);
    }

    public int start(int fair) throws IndexOutOfBoundsException {
        return firstDay(fairOf(fair));
    }

    public boolean isOpen(int fair) throws IndexOutOfBoundsException {
        return isOpenNow(fairOf(fair));
    }

    public int hour() {
        return nowHour;
    }

    public int year() {
        return nowYear;
    }

    public int pass(int hours) throws IllegalArgumentException, IllegalStateException {
        refuseOutside(hours, 1, YEAR_HOURS);
        int then = nowHour + hours;
        if (then < YEAR_HOURS) {
            nowHour = then;
            return nowHour;
        }
        if (nowYear >= LAST_YEAR) {
            throw new IllegalStateException("the last year does not end");
        }
        nowYear++;
        nowEaster = easterDay(nowYear);
        nowHour = then - YEAR_HOURS;
        for (int i = 0; i < fairs.size(); i++) {
            fairs.get(i).beginYear();
        }
        return nowHour;
    }

    public int wind(int force) throws IllegalArgumentException {
        refuseOutside(force, 0, STRONGEST_WIND);
        int before = nowWind;
        nowWind = force;
        return before;
    }

    private static int easterDay(int year) {
        int a = year % 19;
        int b = year / 100;
        int c = year % 100;
        int d = b / 4;
        int e = b % 4;
        int f = (b + 8) / 25;
        int g = (b - f + 1) / 3;
        int h = (19 * a + b - d - g + 15) % 30;
        int i = c / 4;
        int k = c % 4;
        int l = (32 + 2 * e + 2 * i - h - k) % 7;
        int m = (a + 11 * h + 22 * l) / 451;
        int n = h + l - 7 * m + 114;
        int march = 3;
        return (n / 31 == march ? 59 : 90) + n % 31;
    }

    private int firstDay(Fair fair) {
        return fair.isMovable ? nowEaster + fair.day : fair.day;
    }

    private int openingOf(Fair fair) {
        return firstDay(fair) * DAY_HOURS + OPENING_HOUR;
    }

    private int endOf(Fair fair) {
        return (firstDay(fair) + fair.days - 1) * DAY_HOURS + CLOSING_HOUR;
    }

    private boolean isOpenNow(Fair fair) {
        return nowHour >= openingOf(fair) && nowHour < endOf(fair);
    }

    // Tests, checks, crowds and going reach over the end of a year, so they are kept from 1950 on.
    private int hourSinceFirst() {
        return (nowYear - FIRST_YEAR) * YEAR_HOURS + nowHour;
    }

    private int daySinceFirst() {
        return (nowYear - FIRST_YEAR) * YEAR_DAYS + nowHour / DAY_HOURS;
    }

    private Fair fairOf(int fair) {
        if (fair < 0 || fair >= fairs.size()) {
            throw new IndexOutOfBoundsException("no such fair");
        }
        return fairs.get(fair);
    }

    private static void refuseOutside(int number, int least, int most) {
        if (number < least || number > most) {
            throw new IllegalArgumentException("a number is out of range");
        }
    }

    // ---- roads and tours

    public boolean road(int fair, int other, int miles, int height)
            throws IndexOutOfBoundsException, IllegalArgumentException {
        refuseNoFair(fair);
        refuseNoFair(other);
        if (fair == other) {
            throw new IllegalArgumentException("a road joins two fairs");
        }
        refuseOutside(miles, 1, 200);
        refuseOutside(height, LOWEST, HIGHEST);
        return roads.build(fair, other, miles, height);
    }

    public int way(int fair, int other, int height)
            throws IndexOutOfBoundsException, IllegalArgumentException, NoSuchElementException {
        refuseNoFair(fair);
        refuseNoFair(other);
        refuseOutside(height, LOWEST, HIGHEST);
        int hours = roads.hoursBetween(fair, other, height);
        if (hours == NONE) {
            throw new NoSuchElementException("there is no way");
        }
        return hours;
    }

    public boolean canMake(int ride, int fair, int next) throws IndexOutOfBoundsException {
        Ride maker = rideOf(ride);
        refuseNoFair(fair);
        refuseNoFair(next);
        return makes(maker, fair, next);
    }

    public int tour(int ride, int index) throws IndexOutOfBoundsException, NoSuchElementException {
        layTour(rideOf(ride));
        int fair = tour.fairIn(index);
        if (fair == NONE) {
            throw new NoSuchElementException("the tour has no such fair");
        }
        return fair;
    }

    private void refuseNoFair(int fair) {
        fairOf(fair);
    }

    private boolean makes(Ride ride, int fair, int next) {
        int wayHours = roads.hoursBetween(fair, next, ride.height);
        int building = ride.parts.hoursOfAll();
        int there = endOf(fairOf(fair)) + building / 2 + wayHours + building;
        return wayHours != NONE && there <= openingOf(fairOf(next));
    }

    private static int pairOf(int fair, int other) {
        boolean areThere = fair >= 0 && fair < MOST_FAIRS && other >= 0 && other < MOST_FAIRS;
        return areThere ? fair * MOST_FAIRS + other : NONE;
    }

    private void layTour(Ride ride) {
        for (int fair = 0; fair < fairs.size(); fair++) {
            for (int next = 0; next < fairs.size(); next++) {
                tour.tell(fair, next, makes(ride, fair, next));
            }
        }
        tour.lay(fairs.size());
    }

    // ---- rides

    public int ride(int family, char kind, int frontage, int height, int power, int price, int room, int wind)
            throws IndexOutOfBoundsException, IllegalArgumentException, UnsupportedOperationException,
            IllegalStateException {
        Family owner = familyOf(family);
        if (kind < 'a' || kind > 'e') {
            throw new IllegalArgumentException("no such kind");
        }
        refuseOutside(frontage, 5, 60);
        refuseOutside(height, LOWEST, HIGHEST);
        refuseOutside(power, 0, 50);
        refuseOutside(price, 1, 20);
        refuseOutside(room, 1, 500);
        refuseOutside(wind, 0, STRONGEST_WIND);
        if (owner.isDead) {
            throw new UnsupportedOperationException("the family died out");
        }
        if (rides.size() >= MOST_RIDES) {
            throw new IllegalStateException("there are 12 rides");
        }
        Ride ride = new Ride(kind, frontage, height, power, price, room, wind);
        ride.handTo(family);
        rides.add(ride);
        return rides.size() - 1;
    }

    public int part(int ride, int hours) throws IndexOutOfBoundsException, IllegalArgumentException,
            UnsupportedOperationException, IllegalStateException {
        Parts parts = rideOf(ride).parts;
        refuseOutside(hours, 1, 20);
        if (parts.up > 0) {
            throw new UnsupportedOperationException("a part is up");
        }
        if (parts.count >= MOST_PARTS) {
            throw new IllegalStateException("it has 6 parts");
        }
        parts.add(hours);
        return parts.count;
    }

    public int partsUp(int ride) throws IndexOutOfBoundsException {
        return rideOf(ride).parts.up;
    }

    public int at(int ride) throws IndexOutOfBoundsException {
        return rideOf(ride).place;
    }

    public int busy(int ride) throws IndexOutOfBoundsException {
        return busyHours(rideOf(ride));
    }

    public int go(int ride, int fair)
            throws IndexOutOfBoundsException, UnsupportedOperationException, NoSuchElementException {
        Ride goer = rideOf(ride);
        if (fair != NONE) {
            refuseNoFair(fair);
        }
        if (goer.parts.up > 0 || busyHours(goer) > 0) {
            throw new UnsupportedOperationException("it cannot leave");
        }
        int hours = hoursToGo(goer, fair);
        if (hours == NONE) {
            throw new NoSuchElementException("there is no way");
        }
        goer.place = fair;
        goer.freeHour = hourSinceFirst() + hours;
        return hours;
    }

    public int up(int ride) throws IndexOutOfBoundsException, UnsupportedOperationException {
        Ride built = rideOf(ride);
        if (busyHours(built) > 0 || !hasGroundWhereItIs(ride) || built.parts.areAllUp()) {
            throw new UnsupportedOperationException("no part can go up");
        }
        built.freeHour = hourSinceFirst() + built.parts.putUpNext();
        return built.parts.up;
    }

    public int down(int ride) throws IndexOutOfBoundsException, UnsupportedOperationException {
        Ride pulled = rideOf(ride);
        if (busyHours(pulled) > 0 || pulled.parts.up == 0) {
            throw new UnsupportedOperationException("nothing can be pulled down");
        }
        int hours = pulled.parts.pullDown();
        pulled.freeHour = hourSinceFirst() + hours;
        return hours;
    }

    public int takings(int ride) throws IndexOutOfBoundsException {
        return rideOf(ride).takings;
    }

    public int sell(int ride, int family, int price)
            throws IndexOutOfBoundsException, IllegalArgumentException, UnsupportedOperationException {
        Ride sold = rideOf(ride);
        Family buyer = familyOf(family);
        refuseOutside(price, 0, 9999);
        if (sold.family == family || buyer.isDead) {
            throw new UnsupportedOperationException("that family cannot buy it");
        }
        familyOf(sold.family).money += price;
        buyer.money -= price;
        int owners = sold.book.size();
        sold.handTo(family);
        return owners;
    }

    public int owner(int ride, int index) throws IndexOutOfBoundsException, NoSuchElementException {
        ArrayList<Integer> book = rideOf(ride).book;
        if (index < 0 || index >= book.size()) {
            throw new NoSuchElementException("no such owner");
        }
        return book.get(index);
    }

    private Ride rideOf(int ride) {
        if (ride < 0 || ride >= rides.size()) {
            throw new IndexOutOfBoundsException("no such ride");
        }
        return rides.get(ride);
    }

    private int busyHours(Ride ride) {
        return Math.max(0, ride.freeHour - hourSinceFirst());
    }

    private int hoursToGo(Ride ride, int fair) {
        if (fair == NONE) {
            return 0;
        }
        return ride.place == NONE ? HOURS_FROM_WINTER : roads.hoursBetween(ride.place, fair, ride.height);
    }

    private boolean hasGroundWhereItIs(int ride) {
        int place = rideOf(ride).place;
        return place != NONE && fairOf(place).footOf(ride) != NONE;
    }

    // ---- rights and ground

    public int right(int fair, int family, int from, int to) throws IndexOutOfBoundsException,
            IllegalArgumentException, UnsupportedOperationException, IllegalStateException {
        Fair giver = fairOf(fair);
        Family taker = familyOf(family);
        if (from < 0 || to > giver.ground || from >= to) {
            throw new IllegalArgumentException("no stretch of the ground");
        }
        if (giver.hasRightWithin(from, to, nowYear) || taker.isDead) {
            throw new UnsupportedOperationException("it cannot be given");
        }
        if (giver.rights.size() >= MOST_RIGHTS) {
            throw new IllegalStateException("the fair has 10 rights");
        }
        giver.rights.add(new Right(family, from, to, nowYear));
        return giver.heldRights(nowYear);
    }

    public int holder(int fair, int foot) throws IndexOutOfBoundsException, NoSuchElementException {
        Fair asked = fairOf(fair);
        refuseNoFoot(asked, foot);
        for (int i = 0; i < asked.rights.size(); i++) {
            Right right = asked.rights.get(i);
            if (!right.isLost(nowYear) && right.touches(foot, foot + 1)) {
                return right.family;
            }
        }
        throw new NoSuchElementException("nobody has a right to it");
    }

    public int apply(int fair, int ride) throws IndexOutOfBoundsException, UnsupportedOperationException {
        Fair asked = fairOf(fair);
        rideOf(ride);
        if (asked.isTold(ride) || asked.isAllotted) {
            throw new UnsupportedOperationException("it cannot be told");
        }
        asked.told.add(ride);
        return asked.told.size();
    }

    public int allot(int fair) throws IndexOutOfBoundsException, UnsupportedOperationException {
        Fair let = fairOf(fair);
        if (let.isAllotted || nowHour >= openingOf(let)) {
            throw new UnsupportedOperationException("it cannot be allotted now");
        }
        let.isAllotted = true;
        allotByRights(let);
        allotToOthers(let, true);
        allotToOthers(let, false);
        return filledFeet(let);
    }

    public int standing(int fair, int foot) throws IndexOutOfBoundsException, NoSuchElementException {
        Fair asked = fairOf(fair);
        refuseNoFoot(asked, foot);
        for (int i = 0; i < rides.size(); i++) {
            int first = asked.footOf(i);
            if (first != NONE && foot >= first && foot < first + rides.get(i).frontage) {
                return i;
            }
        }
        throw new NoSuchElementException("no ride has it");
    }

    public int placeOf(int fair, int ride) throws IndexOutOfBoundsException, NoSuchElementException {
        Fair asked = fairOf(fair);
        rideOf(ride);
        int foot = asked.footOf(ride);
        if (foot == NONE) {
            throw new NoSuchElementException("it has no ground there");
        }
        return foot;
    }

    public float filledShare(int fair) throws IndexOutOfBoundsException {
        Fair asked = fairOf(fair);
        return (float) filledFeet(asked) / (float) asked.ground;
    }

    private static void refuseNoFoot(Fair fair, int foot) {
        if (foot < 0 || foot >= fair.ground) {
            throw new IndexOutOfBoundsException("no such foot");
        }
    }

    private void allotByRights(Fair fair) {
        int behind = NONE;
        for (int i = 0; i < fair.rights.size(); i++) {
            Right right = fair.nextRight(behind, nowYear);
            if (right == null) {
                return;
            }
            allotRight(fair, right);
            behind = right.from;
        }
    }

    private void allotRight(Fair fair, Right right) {
        int foot = right.from;
        for (int i = 0; i < fair.told.size(); i++) {
            int number = fair.told.get(i);
            Ride ride = rideOf(number);
            boolean isDue = ride.family == right.family && fair.footOf(number) == NONE;
            if (isDue && foot + ride.frontage <= right.to && isClear(fair, number, foot)) {
                letGround(fair, number, foot);
                right.usedYear = nowYear;
                foot += ride.frontage;
            }
        }
    }

    private void allotToOthers(Fair fair, boolean isGuild) {
        for (int i = 0; i < fair.told.size(); i++) {
            int number = fair.told.get(i);
            if (fair.footOf(number) == NONE && familyOf(rideOf(number).family).isGuild == isGuild) {
                int foot = firstClearFoot(fair, number);
                if (foot != NONE) {
                    letGround(fair, number, foot);
                }
            }
        }
    }

    private int firstClearFoot(Fair fair, int ride) {
        int frontage = rideOf(ride).frontage;
        for (int foot = 0; foot + frontage <= fair.ground; foot++) {
            if (!fair.isRightUsedWithin(foot, foot + frontage, nowYear) && isClear(fair, ride, foot)) {
                return foot;
            }
        }
        return NONE;
    }

    private boolean isClear(Fair fair, int ride, int foot) {
        Ride comer = rideOf(ride);
        for (int i = 0; i < rides.size(); i++) {
            int first = fair.footOf(i);
            if (i != ride && first != NONE) {
                Ride other = rides.get(i);
                int least = other.kind == comer.kind ? LIKES_FEET : 0;
                int gapAhead = foot - (first + other.frontage);
                int gapBehind = first - (foot + comer.frontage);
                if (gapAhead < least && gapBehind < least) {
                    return false;
                }
            }
        }
        return true;
    }

    private void letGround(Fair fair, int ride, int foot) {
        Ride put = rideOf(ride);
        fair.putAt(ride, foot);
        familyOf(put.family).money -= fair.toll * put.frontage;
    }

    private int filledFeet(Fair fair) {
        int feet = 0;
        for (int i = 0; i < rides.size(); i++) {
            if (fair.footOf(i) != NONE) {
                feet += rides.get(i).frontage;
            }
        }
        return feet;
    }

    // ---- opening and crowds

    public int test(int ride) throws IndexOutOfBoundsException {
        Ride tested = rideOf(ride);
        int today = daySinceFirst();
        int since = tested.testDay == NONE ? NONE : today - tested.testDay;
        tested.testDay = today;
        return since;
    }

    public boolean check(int ride) throws IndexOutOfBoundsException {
        Ride checked = rideOf(ride);
        checked.checkDay = daySinceFirst();
        return checked.hasDefect;
    }

    public boolean defect(int ride, boolean is) throws IndexOutOfBoundsException {
        Ride told = rideOf(ride);
        boolean had = told.hasDefect;
        told.hasDefect = is;
        return had;
    }

    public char keeps(int ride) throws IndexOutOfBoundsException {
        Ride asked = rideOf(ride);
        int today = daySinceFirst();
        if (!hasGroundWhereItIs(ride)) {
            return 'l';
        }
        if (busyHours(asked) > 0 || asked.parts.count == 0 || !asked.parts.areAllUp()) {
            return 'b';
        }
        if (asked.testDay == NONE || today - asked.testDay > TEST_HOLDS_DAYS) {
            return 't';
        }
        if (asked.hasDefect) {
            return 'd';
        }
        if (asked.checkDay != today) {
            return 'c';
        }
        return nowWind > asked.wind ? 'w' : '-';
    }

    public int power(int fair, int power) throws IndexOutOfBoundsException, IllegalArgumentException {
        Fair told = fairOf(fair);
        refuseOutside(power, 0, 500);
        int before = told.power;
        told.power = power;
        return before;
    }

    public int crowd(int fair, int people, int money)
            throws IndexOutOfBoundsException, IllegalArgumentException, UnsupportedOperationException {
        Fair visited = fairOf(fair);
        refuseOutside(people, 1, MOST_PEOPLE);
        refuseOutside(money, 1, MOST_CROWD_MONEY);
        if (!isOpenNow(visited) || visited.crowdDay == daySinceFirst()) {
            throw new UnsupportedOperationException("no crowd can come now");
        }
        visited.crowdDay = daySinceFirst();
        purses.fill(people, money);
        return runRides(fair);
    }

    public double meanTakings() throws ArithmeticException {
        int count = rides.size();
        if (count == 0) {
            throw new ArithmeticException("there are no rides");
        }
        long sum = 0;
        for (int i = 0; i < count; i++) {
            sum += rides.get(i).takings;
        }
        return (double) sum / (double) count;
    }

    private int runRides(int fair) {
        Fair visited = fairOf(fair);
        int powerLeft = visited.power;
        int sum = 0;
        int ride = visited.nextRide(NONE);
        for (int i = 0; i < MOST_RIDES && ride != NONE; i++) {
            Ride runner = rideOf(ride);
            if (runner.place == fair && keeps(ride) == '-' && runner.power <= powerLeft) {
                powerLeft -= runner.power;
                sum += run(runner);
            }
            ride = visited.nextRide(visited.footOf(ride));
        }
        return sum;
    }

    // The room is for a day: what a ride took at another fair on this day is off it.
    private int run(Ride ride) {
        int today = daySinceFirst();
        if (ride.guestDay != today) {
            ride.guestDay = today;
            ride.guests = 0;
        }
        int payers = purses.pay(ride.price, ride.room - ride.guests);
        ride.guests += payers;
        int taken = payers * ride.price;
        ride.takings += taken;
        familyOf(ride.family).money += taken - ride.power;
        return taken;
    }

    // ---- the whole

    public long checksum() {
        long sum = 7;
        for (int i = 0; i < families.size(); i++) {
            sum = 31 * sum + families.get(i).money;
        }
        for (int i = 0; i < rides.size(); i++) {
            Ride ride = rides.get(i);
            sum = 31 * sum + ride.takings;
            sum = 31 * sum + ride.parts.up;
        }
        for (int i = 0; i < fairs.size(); i++) {
            sum = sumWithGround(sum, fairs.get(i));
        }
        return 31 * sum + nowHour;
    }

    public boolean isTrue() {
        for (int i = 0; i < fairs.size(); i++) {
            if (!isGroundTrue(fairs.get(i))) {
                return false;
            }
        }
        for (int i = 0; i < rides.size(); i++) {
            if (!rides.get(i).isLastInBook() || !isTourTrue(rides.get(i))) {
                return false;
            }
        }
        return true;
    }

    private static long sumWithGround(long before, Fair fair) {
        long sum = before;
        int ride = fair.nextRide(NONE);
        for (int i = 0; i < MOST_RIDES && ride != NONE; i++) {
            int foot = fair.footOf(ride);
            sum = 31 * sum + ride;
            sum = 31 * sum + foot;
            ride = fair.nextRide(foot);
        }
        return sum;
    }

    private boolean isGroundTrue(Fair fair) {
        for (int i = 0; i < rides.size(); i++) {
            int foot = fair.footOf(i);
            if (foot != NONE && !isClear(fair, i, foot)) {
                return false;
            }
        }
        return true;
    }

    private boolean isTourTrue(Ride ride) {
        layTour(ride);
        for (int i = 1; i < MOST_FAIRS; i++) {
            int fair = tour.fairIn(i - 1);
            int next = tour.fairIn(i);
            if (fair != NONE && next != NONE && !makes(ride, fair, next)) {
                return false;
            }
        }
        return true;
    }

    // ---- what the circuit is made of

    private static final class Family {
        private final boolean isGuild;
        private int money = FIRST_MONEY;
        private boolean isDead = false;

        private Family(boolean isGuild) {
            this.isGuild = isGuild;
        }
    }

    private static final class Right {
        private final int from;
        private final int to;
        private final int givenYear;
        private int family;
        private int usedYear = NONE;

        private Right(int family, int from, int to, int givenYear) {
            this.family = family;
            this.from = from;
            this.to = to;
            this.givenYear = givenYear;
        }

        private boolean isLost(int year) {
            return year - Math.max(givenYear, usedYear) >= YEARS_TO_LOSS;
        }

        private boolean touches(int first, int behind) {
            return first < to && from < behind;
        }
    }

    private static final class Fair {
        private final boolean isMovable;
        private final int day;
        private final int days;
        private final int ground;
        private final int toll;
        private final ArrayList<Right> rights = new ArrayList<>();
        private final ArrayList<Integer> told = new ArrayList<>();
        private final int[] feet = new int[MOST_RIDES];
        private boolean isAllotted = false;
        private int power = 0;
        private int crowdDay = NONE;

        private Fair(boolean isMovable, int day, int days, int ground, int toll) {
            this.isMovable = isMovable;
            this.day = day;
            this.days = days;
            this.ground = ground;
            this.toll = toll;
            Arrays.fill(feet, NONE);
        }

        private void beginYear() {
            told.clear();
            isAllotted = false;
            Arrays.fill(feet, NONE);
        }

        private boolean isTold(int ride) {
            for (int i = 0; i < told.size(); i++) {
                int number = told.get(i);
                if (number == ride) {
                    return true;
                }
            }
            return false;
        }

        private int footOf(int ride) {
            return ride >= 0 && ride < feet.length ? feet[ride] : NONE;
        }

        private void putAt(int ride, int foot) {
            if (ride >= 0 && ride < feet.length) {
                feet[ride] = foot;
            }
        }

        private int nextRide(int behind) {
            int next = NONE;
            for (int i = 0; i < feet.length; i++) {
                if (feet[i] > behind && (next == NONE || feet[i] < feet[next])) {
                    next = i;
                }
            }
            return next;
        }

        private Right nextRight(int behind, int year) {
            Right next = null;
            for (int i = 0; i < rights.size(); i++) {
                Right right = rights.get(i);
                boolean isLeft = right.from > behind && !right.isLost(year);
                if (isLeft && (next == null || right.from < next.from)) {
                    next = right;
                }
            }
            return next;
        }

        private boolean hasRightWithin(int first, int behind, int year) {
            for (int i = 0; i < rights.size(); i++) {
                if (!rights.get(i).isLost(year) && rights.get(i).touches(first, behind)) {
                    return true;
                }
            }
            return false;
        }

        private boolean isRightUsedWithin(int first, int behind, int year) {
            for (int i = 0; i < rights.size(); i++) {
                if (rights.get(i).usedYear == year && rights.get(i).touches(first, behind)) {
                    return true;
                }
            }
            return false;
        }

        private int heldRights(int year) {
            int count = 0;
            for (int i = 0; i < rights.size(); i++) {
                if (!rights.get(i).isLost(year)) {
                    count++;
                }
            }
            return count;
        }
    }

    private static final class Parts {
        private final int[] hours = new int[MOST_PARTS];
        private int count = 0;
        private int up = 0;

        private void add(int hoursToGoUp) {
            if (count < hours.length) {
                hours[count] = hoursToGoUp;
                count++;
            }
        }

        private boolean areAllUp() {
            return up >= count;
        }

        private int putUpNext() {
            if (up >= count || up >= hours.length) {
                return 0;
            }
            up++;
            return hours[up - 1];
        }

        private int pullDown() {
            int half = hoursOfFirst(up) / 2;
            up = 0;
            return half;
        }

        private int hoursOfAll() {
            return hoursOfFirst(count);
        }

        private int hoursOfFirst(int parts) {
            int sum = 0;
            for (int i = 0; i < parts && i < hours.length; i++) {
                sum += hours[i];
            }
            return sum;
        }
    }

    private static final class Ride {
        private final char kind;
        private final int frontage;
        private final int height;
        private final int power;
        private final int price;
        private final int room;
        private final int wind;
        private final Parts parts = new Parts();
        private final ArrayList<Integer> book = new ArrayList<>();
        private int family = NONE;
        private int place = NONE;
        private int freeHour = 0;
        private int testDay = NONE;
        private int checkDay = NONE;
        private boolean hasDefect = false;
        private int takings = 0;
        private int guestDay = NONE;
        private int guests = 0;

        private Ride(char kind, int frontage, int height, int power, int price, int room, int wind) {
            this.kind = kind;
            this.frontage = frontage;
            this.height = height;
            this.power = power;
            this.price = price;
            this.room = room;
            this.wind = wind;
        }

        private void handTo(int next) {
            family = next;
            if (book.size() < MOST_OWNERS) {
                book.add(next);
            }
        }

        private boolean isLastInBook() {
            if (book.isEmpty()) {
                return false;
            }
            int last = book.get(book.size() - 1);
            return last == family;
        }
    }

    private static final class Roads {
        // Above the miles of any way, and small enough to be added to itself.
        private static final int NO_WAY = 1000000;

        private final int[] miles = new int[MOST_FAIRS * MOST_FAIRS];
        private final int[] heights = new int[MOST_FAIRS * MOST_FAIRS];
        private final int[] fewest = new int[MOST_FAIRS * MOST_FAIRS];
        private int measuredHeight = NONE;

        private boolean build(int from, int to, int length, int height) {
            int there = pairOf(from, to);
            int back = pairOf(to, from);
            if (there == NONE || back == NONE) {
                return false;
            }
            boolean was = miles[there] > 0;
            miles[there] = length;
            miles[back] = length;
            heights[there] = height;
            heights[back] = height;
            measuredHeight = NONE;
            return was;
        }

        private int hoursBetween(int from, int to, int height) {
            if (height != measuredHeight) {
                measure(height);
            }
            int pair = pairOf(from, to);
            if (pair == NONE || fewest[pair] >= NO_WAY) {
                return NONE;
            }
            return (fewest[pair] + MILES_IN_AN_HOUR - 1) / MILES_IN_AN_HOUR;
        }

        private void measure(int height) {
            takeRoads(height);
            for (int by = 0; by < MOST_FAIRS; by++) {
                for (int from = 0; from < MOST_FAIRS; from++) {
                    for (int to = 0; to < MOST_FAIRS; to++) {
                        int round = fewest[from * MOST_FAIRS + by] + fewest[by * MOST_FAIRS + to];
                        int whole = from * MOST_FAIRS + to;
                        fewest[whole] = Math.min(fewest[whole], round);
                    }
                }
            }
            measuredHeight = height;
        }

        private void takeRoads(int height) {
            for (int i = 0; i < fewest.length; i++) {
                boolean isSame = i / MOST_FAIRS == i % MOST_FAIRS;
                boolean isRoad = miles[i] > 0 && heights[i] >= height;
                fewest[i] = isSame ? 0 : isRoad ? miles[i] : NO_WAY;
            }
        }
    }

    // The longest row of fairs, over what a ride was told to be able to make.
    private static final class Tour {
        private final boolean[] makes = new boolean[MOST_FAIRS * MOST_FAIRS];
        private final int[] rowsFrom = new int[MOST_FAIRS];
        private final int[] row = new int[MOST_FAIRS];
        private int length = 0;

        private void tell(int fair, int next, boolean isMade) {
            int pair = pairOf(fair, next);
            if (pair != NONE) {
                makes[pair] = isMade;
            }
        }

        private int fairIn(int index) {
            return index >= 0 && index < length && index < row.length ? row[index] : NONE;
        }

        private void lay(int fairs) {
            int count = Math.min(fairs, MOST_FAIRS);
            int rest = measureRows(count);
            int last = NONE;
            length = 0;
            for (int i = 0; i < row.length && rest > 0; i++) {
                last = firstWithRow(count, last, rest);
                row[i] = last;
                length++;
                rest--;
            }
        }

        // A fair made behind another one opens behind that one's end: no row comes back to a
        // fair, and as many rounds as there are fairs reach the end of every row.
        private int measureRows(int count) {
            Arrays.fill(rowsFrom, 1);
            int longest = Math.min(count, 1);
            for (int round = 1; round < count; round++) {
                for (int fair = 0; fair < count && fair < rowsFrom.length; fair++) {
                    rowsFrom[fair] = rowFrom(count, fair);
                    longest = Math.max(longest, rowsFrom[fair]);
                }
            }
            return longest;
        }

        private int rowFrom(int count, int fair) {
            int longest = 1;
            for (int next = 0; next < count && next < rowsFrom.length; next++) {
                if (isMade(fair, next)) {
                    longest = Math.max(longest, rowsFrom[next] + 1);
                }
            }
            return longest;
        }

        private int firstWithRow(int count, int last, int rest) {
            for (int fair = 0; fair < count && fair < rowsFrom.length; fair++) {
                if (rowsFrom[fair] == rest && (last == NONE || isMade(last, fair))) {
                    return fair;
                }
            }
            return NONE;
        }

        private boolean isMade(int fair, int next) {
            int pair = fair * MOST_FAIRS + next;
            return pair >= 0 && pair < makes.length && makes[pair];
        }
    }

    private static final class Purses {
        // How many people have so much money, and how many of those pay.
        private final int[] people = new int[MOST_CROWD_MONEY + 1];
        private final int[] payers = new int[MOST_CROWD_MONEY + 1];

        private void fill(int number, int money) {
            Arrays.fill(people, 0);
            if (money >= 0 && money < people.length) {
                people[money] = number;
            }
        }

        // Who pays is settled ahead of any paying, so that nobody pays twice.
        private int pay(int price, int room) {
            if (price < 1) {
                return 0;
            }
            int left = room;
            for (int money = people.length - 1; money >= price; money--) {
                payers[money] = Math.min(left, people[money]);
                left -= payers[money];
            }
            for (int money = price; money < people.length; money++) {
                people[money] -= payers[money];
                people[money - price] += payers[money];
            }
            return room - left;
        }
    }
}
