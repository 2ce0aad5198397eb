import java.lang.reflect.InvocationTargetException;
import java.lang.reflect.Method;
import java.util.ArrayList;
import java.util.Comparator;
import java.util.List;
import java.util.function.Consumer;
import java.util.function.Supplier;

/**
 * Tests of the cases that sentences of the document name. A test is a method that bears the sentence's
 * words as @Says; it runs on an object of its own, and its name tells the case. That the words stand in
 * the document is part of the test, and CoverTest tells which sentences have none.
 */
abstract class Edges {
    static final Class<? extends RuntimeException> INDEX = IndexOutOfBoundsException.class;
    static final Class<? extends RuntimeException> ARGUMENT = IllegalArgumentException.class;
    static final Class<? extends RuntimeException> STATE = IllegalStateException.class;

    /** A new object, for each test another one. */
    StoodMinutes x = new StoodMinutes();

    private Due due;
    private String told;

    /** The tests of a class, in the order of their names. */
    static List<Method> tests(Class<?> edges) {
        List<Method> tests = new ArrayList<>();
        for (Method method : edges.getDeclaredMethods()) {
            if (method.getAnnotationsByType(Says.class).length > 0) {
                tests.add(method);
            }
        }
        tests.sort(Comparator.comparing(Method::getName));
        return tests;
    }

    /** Runs all tests of a class, and ends its program. */
    static void run(Class<? extends Edges> edges) {
        Due due = new Due();
        Doc doc = new Doc();
        for (Method test : tests(edges)) {
            for (Says says : test.getAnnotationsByType(Says.class)) {
                for (String words : says.words()) {
                    due.compare(test.getName() + ": the document says: " + words, "true",
                            String.valueOf(doc.quote(says.in(), words)));
                }
            }
            int before = due.asked();
            run(test, edges, due);
            due.compare(test.getName() + " asks something", "true", String.valueOf(due.asked() > before));
        }
        due.end(edges.getSimpleName());
    }

    private static void run(Method test, Class<? extends Edges> edges, Due due) {
        try {
            Edges own = edges.getDeclaredConstructor().newInstance();
            own.due = due;
            own.told = test.getName();
            test.invoke(own);
        } catch (InvocationTargetException e) {
            due.compare(test.getName() + " comes to its end", "yes", String.valueOf(e.getCause()));
        } catch (ReflectiveOperationException e) {
            due.compare(test.getName() + " can be run", "yes", e.toString());
        }
    }

    // ---- what tests ask

    final void is(long answer, Due.Call call) {
        due.is(told, answer, call);
    }

    final void same(String answer, String got) {
        due.compare(told, answer, got);
    }

    /** Those who stand in a line of x, and nobody else. */
    final void row(int l, int... people) {
        for (int k = 0; k < people.length; k++) {
            int place = k;
            is(people[k], () -> x.at(l, place));
        }
        is(-1, () -> x.at(l, people.length));
        is(people.length, () -> x.line(l, 1));
    }

    /** The call throws that very exception, and an object with it is like one without it. */
    final void refused(Class<? extends RuntimeException> thrown, Supplier<StoodMinutes> made,
            Consumer<StoodMinutes> call) {
        StoodMinutes asked = made.get();
        due.isThrown(told, thrown, () -> {
            call.accept(asked);
            return 0;
        });
        due.compare(told + " changes nothing", Whole.of(made), Whole.of(() -> {
            StoodMinutes y = made.get();
            try {
                call.accept(y);
            } catch (RuntimeException e) {
                // told above
            }
            return y;
        }));
    }

    // ---- objects to ask

    /** An object that has loaded a day. */
    static StoodMinutes day(String text) {
        StoodMinutes y = new StoodMinutes();
        Seen.write(y, text);
        y.load();
        return y;
    }

    /** 30 people in three lines of the pace 20: 12, 12 and 6 of them. */
    static StoodMinutes thirty() {
        return day("W3202020" + "c00".repeat(12) + "c01".repeat(12) + "c02".repeat(6));
    }

    /** One who has all that an object can have: people, remembered states, a text, a filled slot. */
    static StoodMinutes lived() {
        StoodMinutes y = day("W20320c00c10c20c01c11c21");
        y.minutes(4);
        y.jump(2);
        y.set(1, 7);
        y.save(1);
        y.exchange(5, 3);
        y.go(4);
        y.come(1, 2);
        y.append('j');
        return y;
    }
}
