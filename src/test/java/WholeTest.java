import java.lang.reflect.InvocationTargetException;
import java.lang.reflect.Method;
import java.lang.reflect.Modifier;
import java.util.ArrayList;
import java.util.Arrays;
import java.util.Comparator;
import java.util.List;
import java.util.Random;

/** Promises 43 and 44, the examples at the end of "Terms", and answers for any arguments. */
public final class WholeTest {
    private static void examples() {
        FairCircuit x = new FairCircuit();
        Checks.is("example 1 easter", x.easter(1950), 98);
        Checks.is("example 1 family", x.family(true), 0);
        Checks.is("example 1 fair", x.fair('m', -10, 2, 80, 0), 0);
        Checks.is("example 1 start", x.start(0), 88);
        FairCircuit y = new FairCircuit();
        Checks.is("example 2 family", y.family(true), 0);
        Checks.is("example 2 fair", y.fair('f', 2, 3, 100, 2), 0);
        Checks.is("example 2 ride", y.ride(0, 'a', 20, 10, 10, 2, 50, 6), 0);
        Checks.is("example 2 right", y.right(0, 0, 40, 90), 1);
        Checks.is("example 2 apply", y.apply(0, 0), 1);
        Checks.is("example 2 allot", y.allot(0), 20);
        Checks.is("example 2 placeOf", y.placeOf(0, 0), 40);
        Checks.is("example 2 money", y.money(0), 960);
        FairCircuit z = new FairCircuit();
        Checks.is("example 3 fair", z.fair('f', 10, 2, 50, 1), 0);
        Checks.is("example 3 other", z.fair('f', 14, 1, 50, 1), 1);
        Checks.is("example 3 road", z.road(0, 1, 41, 12), false);
        Checks.is("example 3 way", z.way(0, 1, 12), 3);
    }

    static long sum(long... terms) {
        long sum = 7;
        for (long term : terms) sum = 31 * sum + term;
        return sum;
    }

    private static void checksums() {
        FairCircuit x = new FairCircuit();
        Checks.is("43 new", x.checksum(), sum(0));
        x.pass(8760 + 0);
        x.pass(5);
        Checks.is("43 hour of the year", x.checksum(), sum(5));
        x.family(true);
        x.family(true);
        x.fine(1, 999);
        x.fine(1, 999);
        Checks.is("43 families", x.checksum(), sum(1000, -998, 5));
        FairCircuit y = Checks.opened();
        y.crowd(0, 60, 2);
        Checks.is("43 all", y.checksum(),
            sum(1000 - 40 + 90, 1000, 2000 - 20 + 10, 0, 100, 2, 0, 0, 0, 0, 10, 1, 0, 0, 3, 20, 252));
    }

    private static void checksumByFeet() {
        FairCircuit x = new FairCircuit();
        x.family(false);
        x.family(true);
        x.fair('f', 5, 1, 100, 0);
        x.fair('f', 6, 1, 100, 0);
        x.ride(0, 'a', 10, 8, 0, 1, 1, 0);
        x.ride(1, 'b', 15, 8, 0, 1, 1, 0);
        for (int fair = 0; fair < 2; fair++) for (int ride = 0; ride < 2; ride++) x.apply(fair, ride);
        x.allot(1);
        x.allot(0);
        Checks.is("43 by first feet", x.checksum(), sum(1000, 1000, 0, 0, 0, 0, 1, 0, 0, 15, 1, 0, 0, 15, 0));
        x.pass(8760);
        Checks.is("43 next year", x.checksum(), sum(1000, 1000, 0, 0, 0, 0, 0));
    }

    private static void truth() {
        Checks.is("44 new", new FairCircuit().isTrue(), true);
        FairCircuit x = Checks.opened();
        Checks.is("44 opened", x.isTrue(), true);
        x.sell(0, 1, 3);
        x.dies(1, 2);
        Checks.is("44 sold and inherited", x.isTrue(), true);
        x.pass(8760);
        Checks.is("44 next year", x.isTrue(), true);
    }

    /** Each method answers or throws what it names for the most unlikely arguments too. */
    private static void anyArguments() {
        int[] odd = {Integer.MIN_VALUE, -1, 0, 1, 7, 8, 11, 12, 100, 8760, Integer.MAX_VALUE};
        Random random = new Random(7);
        List<Method> face = face();
        for (int run = 0; run < 60; run++) {
            FairCircuit x = run % 2 == 0 ? Checks.opened() : new FairCircuit();
            for (int i = 0; i < 460; i++) {
                callOddly(x, face.get(random.nextInt(face.size())), random, odd);
            }
        }
    }

    /** By their names, so that each machine draws the same calls. */
    private static List<Method> face() {
        List<Method> face = new ArrayList<>();
        for (Method m : FairCircuit.class.getDeclaredMethods()) {
            if (Modifier.isPublic(m.getModifiers())) face.add(m);
        }
        face.sort(Comparator.comparing(Method::getName));
        return face;
    }

    private static void callOddly(FairCircuit x, Method m, Random random, int[] odd) {
        Class<?>[] types = m.getParameterTypes();
        Object[] args = new Object[types.length];
        for (int p = 0; p < args.length; p++) {
            int number = odd[random.nextInt(odd.length)];
            args[p] = types[p] == boolean.class ? (Object) (number > 0) : types[p] == char.class ? (Object) (char) number : (Object) number;
        }
        try {
            m.invoke(x, args);
        } catch (InvocationTargetException e) {
            boolean named = Arrays.asList(m.getExceptionTypes()).contains(e.getCause().getClass());
            Checks.is(m.getName() + Arrays.toString(args) + " throws a named " + e.getCause(), named, true);
            String thrower = e.getCause().getStackTrace()[0].getClassName();
            Checks.is(m.getName() + " throws by itself", thrower.startsWith("FairCircuit"), true);
        } catch (IllegalAccessException e) {
            throw new AssertionError(e);
        }
    }

    public static void main(String[] args) {
        examples();
        checksums();
        checksumByFeet();
        truth();
        anyArguments();
        Checks.end("WholeTest");
    }
}
