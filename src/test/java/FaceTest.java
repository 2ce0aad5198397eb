import java.lang.reflect.Constructor;
import java.lang.reflect.Field;
import java.lang.reflect.Method;
import java.lang.reflect.Modifier;
import java.util.Set;
import java.util.TreeSet;
import java.util.regex.Matcher;
import java.util.regex.Pattern;

/** The public face: the document's members, no others, and no private method of a public one's name. */
final class FaceTest {
    private static final String INDEX = " IndexOutOfBoundsException";
    private static final String ARGUMENT = " IllegalArgumentException";
    private static final String STATE = " IllegalStateException";
    private static final String[] METHODS = {
        "append(int)" + ARGUMENT + STATE,
        "clearText()",
        "errorPosition()",
        "load()" + STATE,
        "about(int)" + ARGUMENT,
        "line(int,int)" + INDEX + ARGUMENT,
        "at(int,int)" + INDEX + ARGUMENT,
        "person(int,int)" + INDEX + ARGUMENT,
        "setting(int)" + ARGUMENT,
        "open(int)" + ARGUMENT + STATE,
        "come(int,int)" + INDEX + ARGUMENT + STATE,
        "go(int)" + INDEX + STATE,
        "exchange(int,int)" + INDEX + STATE,
        "jump(int)" + INDEX + STATE,
        "merge(int,int)" + INDEX + ARGUMENT + STATE,
        "minutes(int)" + ARGUMENT,
        "set(int,int)" + ARGUMENT,
        "undo()" + STATE,
        "servedIn(int)" + INDEX + STATE,
        "willPay(int)" + ARGUMENT,
        "gain(int,int)" + INDEX + STATE,
        "partner(int)" + INDEX,
        "bestLine()",
        "longest()",
        "saved(int,int)" + INDEX + ARGUMENT + STATE,
        "runScript(int,long)" + ARGUMENT,
        "simulate(long,int)" + ARGUMENT,
        "save(int)" + INDEX,
        "restore(int)" + INDEX + STATE};
    private static final Due due = new Due();

    public static void main(String[] args) {
        Class<?> face = StoodMinutes.class;
        due.is("the class is public and final", Modifier.PUBLIC | Modifier.FINAL, face::getModifiers);
        document();
        methods(face);
        fields(face);
        for (Constructor<?> made : face.getDeclaredConstructors()) {
            due.compare("the constructor", "public StoodMinutes()", made.toString());
        }
        for (Class<?> inside : face.getDeclaredClasses()) {
            due.compare(inside + " is private and static", "true", String.valueOf(
                    Modifier.isPrivate(inside.getModifiers()) && Modifier.isStatic(inside.getModifiers())));
        }
        due.end("FaceTest");
    }

    /** The methods that the document's public face lists are those that are asked for here. */
    private static void document() {
        Set<String> listed = new TreeSet<>();
        Matcher method = Pattern.compile("public int (\\w+)\\(([^)]*)\\)(?: throws ([^;]*))?;")
                .matcher(new Doc().body("The public face"));
        while (method.find()) {
            String types = method.group(2).replaceAll("(\\w+) \\w+", "$1").replace(" ", "");
            String thrown = method.group(3) == null ? "" : " " + method.group(3).replace(",", "");
            listed.add(method.group(1) + "(" + types + ")" + thrown);
        }
        due.compare("the document's methods", new TreeSet<>(Set.of(METHODS)).toString(), listed.toString());
    }

    private static void methods(Class<?> face) {
        Set<String> open = new TreeSet<>();
        Set<String> names = new TreeSet<>();
        Set<String> hidden = new TreeSet<>();
        for (Method method : face.getDeclaredMethods()) {
            if (Modifier.isPrivate(method.getModifiers())) {
                hidden.add(method.getName());
            } else {
                open.add(told(method));
                names.add(method.getName());
            }
        }
        due.compare("the methods", new TreeSet<>(Set.of(METHODS)).toString(), open.toString());
        hidden.retainAll(names);
        due.compare("private methods of a public one's name", "[]", hidden.toString());
    }

    private static String told(Method method) {
        StringBuilder told = new StringBuilder();
        if (method.getModifiers() != Modifier.PUBLIC || method.getReturnType() != int.class) {
            told.append("not public int: ");
        }
        told.append(method.getName()).append('(');
        for (Class<?> type : method.getParameterTypes()) {
            told.append(told.charAt(told.length() - 1) == '(' ? "" : ",").append(type);
        }
        told.append(')');
        for (Class<?> thrown : method.getExceptionTypes()) {
            told.append(' ').append(thrown.getSimpleName());
        }
        return told.toString();
    }

    private static void fields(Class<?> face) {
        for (Field field : face.getDeclaredFields()) {
            int kind = field.getModifiers();
            if (!Modifier.isPrivate(kind)) {
                due.compare("the open fields", "public static final int StoodMinutes.NONE", field.toString());
            }
            if (Modifier.isStatic(kind)) {
                due.compare(field + " is final", "true", String.valueOf(Modifier.isFinal(kind)));
            }
        }
    }
}
