import java.lang.reflect.Field;
import java.lang.reflect.Method;
import java.lang.reflect.Modifier;
import java.util.ArrayList;
import java.util.Arrays;
import java.util.List;
import java.util.Set;
import java.util.TreeSet;

/** The class has the face of the document, and no other member that can be seen from outside. */
public final class FaceTest {
    private static final String[] FACE = {
        "letters(int)", "word(int,int)", "feed(long,int)", "tableau(int)", "bare(int)", "of(int,int)",
        "row(int,int)", "taken(int,int)", "signs(int,int,int)", "act(int,int,int,int)", "acts(int)",
        "highest(int,int)", "all(int,int)", "stands(int)", "way(int)", "pair(int,int,int)",
        "insert(int,int)", "record(int,int)", "alike(int,int)", "count(int,int)",
        "together(int,int,int)", "worth(int,int)", "worthOf(int)", "seed(int)", "lot(int,int)",
        "sheet(int,int,int)", "put(int,int,int)", "item(int,int,int)", "copy(int,int,int,int,int)",
        "lay(int,int,int)", "take(int,int,int,int)", "many(int)", "keep()", "again()"};

    private static int wrong = 0;

    private static void due(String what, Object got, Object want) {
        if (!got.equals(want)) {
            wrong++;
            System.out.println(what + ": " + got + ", due is " + want);
        }
    }

    private static String told(Method method) {
        List<String> types = new ArrayList<>();
        for (Class<?> type : method.getParameterTypes()) {
            types.add(type.getName());
        }
        return method.getName() + "(" + String.join(",", types) + ")";
    }

    private static void methods() {
        Set<String> seen = new TreeSet<>();
        Set<String> publicNames = new TreeSet<>();
        List<Method> others = new ArrayList<>();
        for (Method method : RaisedTableaux.class.getDeclaredMethods()) {
            if (Modifier.isPrivate(method.getModifiers()) || method.isSynthetic()) {
                others.add(method);
                continue;
            }
            seen.add(told(method));
            publicNames.add(method.getName());
            due(told(method) + " answers", method.getReturnType(), int.class);
            due(told(method) + " is", Modifier.toString(method.getModifiers()), "public");
        }
        due("methods", seen, new TreeSet<>(Arrays.asList(FACE)));
        for (Class<?> inside : RaisedTableaux.class.getDeclaredClasses()) {
            others.addAll(Arrays.asList(inside.getDeclaredMethods()));
            due(inside + " is static", Modifier.isStatic(inside.getModifiers()), true);
        }
        for (Method method : others) {
            due(method + " bears the name of a public one", publicNames.contains(method.getName()), false);
        }
    }

    private static void fields() throws IllegalAccessException {
        Set<String> seen = new TreeSet<>();
        for (Field field : RaisedTableaux.class.getDeclaredFields()) {
            if (!Modifier.isPrivate(field.getModifiers())) {
                due(field.getName() + " is", Modifier.toString(field.getModifiers()), "public static final");
                seen.add(field.getName() + "=" + field.getInt(null));
            }
        }
        due("constants", seen, new TreeSet<>(List.of("BAD=-1", "FULL=-2", "NONE=-3", "OVER=-16")));
    }

    public static void main(String[] args) throws IllegalAccessException {
        due("the class", Modifier.toString(RaisedTableaux.class.getModifiers()), "public final");
        due("constructors", RaisedTableaux.class.getDeclaredConstructors().length, 1);
        due("public constructors", RaisedTableaux.class.getConstructors().length, 1);
        due("its parameters", RaisedTableaux.class.getConstructors()[0].getParameterCount(), 0);
        methods();
        fields();
        System.out.println(wrong == 0 ? "the face is as due" : wrong + " things of the face are not as due");
        if (wrong != 0) {
            System.exit(1);
        }
    }
}
