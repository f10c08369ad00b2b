import java.lang.reflect.InvocationTargetException;
import java.lang.reflect.Method;
import java.util.ArrayList;
import java.util.List;
import java.util.Map;
import java.util.TreeMap;
import java.util.function.Supplier;
import java.util.function.ToLongFunction;

/** What tests of boundary cases share: each case is a method of its own, named by its promise and the case. */
class Edges extends Hamlets {
    /** A call of which one number is told later. */
    interface Asked {
        long of(LastCalled x, int number);
    }

    /** Runs each method whose name begins with "promise" or "terms", by name, as the library tells them in no order. */
    static void runCases(Class<?> test) throws IllegalAccessException {
        Map<String, Method> cases = new TreeMap<>();
        for (Method method : test.getDeclaredMethods()) {
            if (method.getName().matches("(promise\\d\\d|terms)_\\w+")) {
                cases.put(method.getName(), method);
            }
        }
        for (Method method : cases.values()) {
            Due.begin(method.getName());
            try {
                method.invoke(null);
            } catch (InvocationTargetException e) {
                Due.holds("it ended with " + e.getCause(), false);
            }
        }
        Due.begin(test.getName());
        Due.holds("it has cases", !cases.isEmpty());
        System.out.print(cases.size() + " cases, ");
        Due.end();
    }

    /** The least and the greatest number are taken, with the answers due; what is beyond them is BAD. */
    static void bounds(Supplier<LastCalled> make, Asked call, int least, long dueAtLeast, int greatest, long dueAtGreatest) {
        taken(make, x -> call.of(x, least), dueAtLeast);
        taken(make, x -> call.of(x, greatest), dueAtGreatest);
        badBeyond(make, call, least, greatest, BAD);
    }

    static void badBeyond(Supplier<LastCalled> make, Asked call, int least, int greatest, long answer) {
        for (int wrong : new int[] {least - 1, greatest + 1, Integer.MIN_VALUE, Integer.MAX_VALUE}) {
            refusedAs("with " + wrong, make, x -> call.of(x, wrong), answer, BAD);
        }
    }

    static void taken(Supplier<LastCalled> make, ToLongFunction<LastCalled> call, long due) {
        LastCalled x = make.get();
        int before = refusals(x);
        Due.is("what is taken", call.applyAsLong(x), due);
        Due.is("refusals behind what is taken", refusals(x), before);
    }

    private static int refusals(LastCalled x) {
        return x.status(0) + x.status(1) + x.status(2);
    }

    static void refused(Supplier<LastCalled> make, ToLongFunction<LastCalled> call, int reason) {
        refusedAs("the call", make, call, reason, reason);
    }

    /** The call counts under its reason alone; all else is as in a twin that was not asked. */
    static void refusedAs(String what, Supplier<LastCalled> make, ToLongFunction<LastCalled> call, long answer, int reason) {
        LastCalled x = make.get();
        LastCalled twin = make.get();
        Due.is(what, call.applyAsLong(x), answer);
        for (int i = 0; i < 3; i++) {
            Due.is(what + ": STATUS " + i, x.status(i), twin.status(i) + (i == BAD - reason ? 1 : 0));
        }
        Due.holds(what + ": all else stays", seen(x).equals(seen(twin)));
    }

    /** The answer is due and nothing is changed, not even STATUS. */
    static void answers(Supplier<LastCalled> make, ToLongFunction<LastCalled> call, long due) {
        LastCalled x = make.get();
        LastCalled twin = make.get();
        Due.is("the answer", call.applyAsLong(x), due);
        for (int i = 0; i < 3; i++) {
            Due.is("STATUS " + i, x.status(i), twin.status(i));
        }
        Due.holds("all stays", seen(x).equals(seen(twin)));
    }

    /** All that can be seen of an object but STATUS. It is used up by that: undone, read, gone on from its images. */
    static List<Long> seen(LastCalled x) {
        List<Long> seen = new ArrayList<>();
        seen.add(x.part(0));
        seen.add(x.part(1));
        seeBackwards(x, seen);
        seen.add((long) x.read());
        seen.add(x.digest());
        seen.add((long) x.clear());
        for (int i = 0; i < 2; i++) {
            seen.add((long) x.from(i));
            seeBackwards(x, seen);
        }
        return seen;
    }

    private static void seeBackwards(LastCalled x, List<Long> seen) {
        seen.add(x.digest());
        for (int i = 0; i < 9; i++) {
            seen.add((long) x.undo());
            seen.add(x.digest());
        }
    }
}
