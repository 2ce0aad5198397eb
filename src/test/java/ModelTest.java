import java.lang.reflect.InvocationTargetException;
import java.lang.reflect.Method;
import java.lang.reflect.Modifier;
import java.util.Random;

/** Random runs of calls, each at most 512 long, whose answers must be those of the model. */
final class ModelTest {
    private static final int RUNS = 1200;
    private static final int LONGEST = 512;
    private static final String[] CALLS = {
        "append", "clearText", "errorPosition", "load", "about", "line", "at", "person", "setting", "open",
        "come", "go", "exchange", "jump", "merge", "minutes", "set", "undo", "servedIn", "willPay", "gain",
        "partner", "bestLine", "longest", "saved", "runScript", "simulate", "save", "restore"};
    private static final Due due = new Due();

    public static void main(String[] args) {
        for (int run = 0; run < RUNS; run++) {
            run(run);
        }
        due.end("ModelTest");
    }

    private static void run(int run) {
        Random random = new Random(run);
        StoodMinutes x = new StoodMinutes();
        Model model = new Model();
        // runs differ in how often people come and how long minutes last, so that lines fill or empty
        int crowd = random.nextInt(6);
        int patience = 1 + random.nextInt(12);
        int asked = 0;
        if (random.nextInt(3) == 0) {
            for (char c : day(random).toCharArray()) {
                x.append(c);
                model.append(c);
                asked++;
            }
        }
        for (; asked < LONGEST; asked++) {
            String call = random.nextInt(10) < crowd ? "come" : CALLS[random.nextInt(CALLS.length)];
            long[] with = arguments(call, random, patience);
            String told = "run " + run + ", call " + asked + ": " + call + "(" + with[0] + ", " + with[1] + ")";
            due.compare(told, answer(model, call, with), answer(x, call, with));
        }
    }

    private static int number(Random random, int least, int most) {
        return least + random.nextInt(most - least + 1);
    }

    /** Mostly within the range, now and then out of it. */
    private static int around(Random random, int least, int most) {
        return switch (random.nextInt(25)) {
            case 0 -> least - 1;
            case 1 -> most + 1;
            case 2 -> random.nextInt();
            default -> number(random, least, most);
        };
    }

    private static String day(Random random) {
        int lines = number(random, 1, 3);
        StringBuilder day = new StringBuilder("W").append(lines);
        for (int l = 0; l < lines; l++) {
            day.append(String.format("%02d", number(random, 1, 20)));
        }
        while (day.length() < 90) {
            switch (random.nextInt(8)) {
                case 0, 1, 2 -> day.append('c').append(random.nextInt(3)).append(random.nextInt(lines));
                case 3 -> day.append(String.format("g%02d", random.nextInt(8)));
                case 4 -> day.append(String.format("x%02d%02d", random.nextInt(12), random.nextInt(12)));
                case 5 -> day.append(String.format("j%02d", random.nextInt(12)));
                default -> day.append('t').append(number(random, 1, 4));
            }
        }
        if (random.nextInt(3) == 0) {
            day.setCharAt(random.nextInt(day.length()), "W0123456789cgxjtz".charAt(random.nextInt(17)));
        }
        return day.toString();
    }

    private static long[] arguments(String call, Random random, int patience) {
        int p = around(random, 0, 14);
        int q = around(random, 0, 14);
        int l = around(random, 0, 2);
        return switch (call) {
            case "append" -> new long[] {random.nextInt(30) == 0 ? around(random, 0, 255)
                    : "W0123cgxjt".charAt(random.nextInt(10)), 0};
            case "about" -> new long[] {around(random, 0, 9), 0};
            case "line" -> new long[] {l, around(random, 0, 4)};
            case "at" -> new long[] {l, around(random, 0, 11)};
            case "person" -> new long[] {around(random, 0, 29), around(random, 0, 8)};
            case "setting" -> new long[] {around(random, 0, 3), 0};
            case "open" -> new long[] {around(random, 1, 20), 0};
            case "come" -> new long[] {l, around(random, 0, 2)};
            case "merge", "saved" -> new long[] {l, around(random, 0, 2)};
            case "minutes" -> new long[] {around(random, 1, patience), 0};
            case "set" -> set(random);
            case "willPay" -> new long[] {around(random, 1, random.nextBoolean() ? 50 : 999), 0};
            case "runScript" -> script(random);
            case "simulate" -> new long[] {random.nextLong(), around(random, 1, 99)};
            case "save", "restore" -> new long[] {around(random, 0, 1), 0};
            default -> new long[] {p, q};
        };
    }

    private static long[] set(Random random) {
        int what = around(random, 0, 3);
        int v = switch (what) {
            case 0 -> around(random, 10, random.nextBoolean() ? 15 : 99);
            case 1 -> around(random, 0, 50);
            case 2 -> around(random, 1, 9);
            default -> around(random, 1, 5);
        };
        return new long[] {what, v};
    }

    private static long[] script(Random random) {
        int n = around(random, 1, 3);
        if (random.nextInt(20) == 0) {
            return new long[] {n, random.nextLong()};
        }
        long script = 0;
        for (int i = 0; i < n && i < 4; i++) {
            script = script * 100000 + group(random);
        }
        return new long[] {n, script};
    }

    private static int group(Random random) {
        int pp = number(random, 0, 14);
        int qq = number(random, 0, 14);
        int l = number(random, 0, 2);
        int stray = random.nextInt(15) == 0 ? random.nextInt(100000) : 0;
        return (stray + switch (random.nextInt(11)) {
            case 0, 1 -> 10000 + 1000 * l + 100 * number(random, 0, 2);
            case 2 -> 20000 + pp;
            case 3 -> 30000 + 100 * pp + qq;
            case 4 -> 40000 + pp;
            case 5 -> 50000 + 1000 * l + 100 * number(random, 0, 2);
            case 6, 7 -> 60000 + number(random, 0, 61);
            case 8 -> 70000 + pp;
            case 9 -> 80000 + 100 * pp + number(random, 0, 5);
            default -> 90000 + random.nextInt(200);
        }) % 100000;
    }

    /** The answer of a call of that name, or the name of what it throws. */
    private static String answer(Object x, String call, long[] with) {
        for (Method method : x.getClass().getDeclaredMethods()) {
            if (method.getName().equals(call) && !Modifier.isPrivate(method.getModifiers())) {
                return answer(x, method, with);
            }
        }
        return "no such method";
    }

    private static String answer(Object x, Method method, long[] with) {
        Class<?>[] types = method.getParameterTypes();
        Object[] given = new Object[types.length];
        for (int i = 0; i < given.length; i++) {
            if (types[i] == int.class) {
                given[i] = (int) with[i];
            } else {
                given[i] = with[i];
            }
        }
        try {
            return method.invoke(x, given).toString();
        } catch (InvocationTargetException e) {
            return e.getCause().getClass().getName();
        } catch (IllegalAccessException e) {
            return "not to be called";
        }
    }
}
