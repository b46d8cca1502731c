import java.util.HashSet;
import java.util.Set;
import java.util.function.IntFunction;
import java.util.function.Supplier;

/** Boundary cases, each a test of its own on a new object, whose name says the promise and the case. */
final class Cases {
    interface Call { Object on(FairCircuit x); }
    interface Asked { Object on(FairCircuit x, int number); }

    private static final Set<String> NAMES = new HashSet<>();

    private Cases() { }

    /** In such a world the call answers just this. */
    static void answers(String name, Supplier<FairCircuit> world, Call call, Object due) {
        take(name);
        FairCircuit x = world.get();
        Checks.is(name, Checks.answer(() -> call.on(x)), due);
    }

    /** In such a world the call throws just this, and changes nothing. */
    static void refuses(String name, Supplier<FairCircuit> world, Call call, Class<?> due) {
        take(name);
        Checks.refuses(name, world, due, call::on);
    }

    /** The one or the other: what is due is an answer, or the class of an exception. */
    static void gives(String name, Supplier<FairCircuit> world, Call call, Object due) {
        if (due instanceof Class<?> refusal) refuses(name, world, call, refusal);
        else answers(name, world, call, due);
    }

    /** The least and the most are taken, what lies just and far outside is refused. */
    static void range(String name, int least, int most, Supplier<FairCircuit> world, Asked call,
            IntFunction<Object> due, Class<?> refusal) {
        answers(name + " " + least + ", the least, is taken", world, x -> call.on(x, least), due.apply(least));
        answers(name + " " + most + ", the most, is taken", world, x -> call.on(x, most), due.apply(most));
        refuses(name + " " + (least - 1) + ", just below, is refused", world, x -> call.on(x, least - 1), refusal);
        refuses(name + " " + (most + 1) + ", just above, is refused", world, x -> call.on(x, most + 1), refusal);
        refuses(name + " far below is refused", world, x -> call.on(x, Integer.MIN_VALUE), refusal);
        refuses(name + " far above is refused", world, x -> call.on(x, Integer.MAX_VALUE), refusal);
    }

    // Two cases under one name could not be told apart when one fails.
    private static void take(String name) {
        Checks.is("a name that begins with its promise: " + name, name.matches("promise \\d+, .*"), true);
        Checks.is("a name of its own: " + name, NAMES.add(name), true);
    }
}
