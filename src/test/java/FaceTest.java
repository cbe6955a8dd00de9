import java.lang.reflect.Constructor;
import java.lang.reflect.Field;
import java.lang.reflect.Method;
import java.lang.reflect.Modifier;
import java.util.Arrays;
import java.util.Set;
import java.util.TreeSet;

/** The public face is the document's, and nothing else of the class can be seen (LANGUAGE.md 1, 5). */
public final class FaceTest {
    private static final String[] METHODS = {
        "boolean place(int,int,int)", "int roll(int,int)", "int move(int,int)", "int step(int)",
        "int ways()", "int due()", "int left(int)", "boolean offer()", "int answer(boolean)",
        "int phase()", "int turn()", "int men(int,int)", "int pips(int)", "int cube()",
        "int owner()", "int points(int)", "boolean crawford()", "long chance(int,int,int,int)"
    };

    public static void main(String[] args) {
        Checks checks = new Checks();
        Class<?> type = TablesMatch.class;
        checks.holds("public and final", Modifier.isPublic(type.getModifiers())
            && Modifier.isFinal(type.getModifiers()));
        checks.due("NONE", TablesMatch.NONE, -1);
        checks.due("WRONG", TablesMatch.WRONG, -2);
        checkMethods(checks, type);
        checkFields(checks, type);
        Constructor<?>[] made = type.getDeclaredConstructors();
        checks.due("constructors", made.length, 1);
        checks.holds("TablesMatch(int)", Modifier.isPublic(made[0].getModifiers())
            && Arrays.equals(made[0].getParameterTypes(), new Class<?>[] {int.class}));
        checks.end();
    }

    private static void checkMethods(Checks checks, Class<?> type) {
        Set<String> wanted = new TreeSet<>(Arrays.asList(METHODS));
        Set<String> seen = new TreeSet<>();
        Set<String> hidden = new TreeSet<>();
        for (Method method : type.getDeclaredMethods()) {
            if (Modifier.isPrivate(method.getModifiers())) {
                hidden.add(method.getName());
            } else {
                seen.add(described(method));
            }
        }
        for (String one : wanted) {
            checks.holds("has " + one, seen.contains(one));
            String name = one.substring(one.indexOf(' ') + 1, one.indexOf('('));
            checks.holds("no private " + name, !hidden.contains(name));
        }
        checks.due("methods that can be seen", seen.size(), wanted.size());
    }

    private static void checkFields(Checks checks, Class<?> type) {
        for (Field field : type.getDeclaredFields()) {
            boolean constant = field.getName().equals("NONE") || field.getName().equals("WRONG");
            checks.due(field.getName() + " is public", Modifier.isPublic(field.getModifiers()), constant);
            checks.due(field.getName() + " is private", Modifier.isPrivate(field.getModifiers()), !constant);
            if (Modifier.isStatic(field.getModifiers())) {
                checks.holds(field.getName() + " is final", Modifier.isFinal(field.getModifiers()));
            }
        }
        checks.due("public fields", type.getFields().length, 2);
    }

    private static String described(Method method) {
        StringBuilder text = new StringBuilder(method.getReturnType().getName());
        text.append(' ').append(method.getName()).append('(');
        String comma = "";
        for (Class<?> parameter : method.getParameterTypes()) {
            text.append(comma).append(parameter.getName());
            comma = ",";
        }
        return text.append(')').toString();
    }
}
