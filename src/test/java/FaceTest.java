import java.lang.reflect.Constructor;
import java.lang.reflect.Field;
import java.lang.reflect.Method;
import java.lang.reflect.Modifier;
import java.util.Arrays;
import java.util.Set;
import java.util.TreeSet;

/** The class has the document's face and no other. */
public final class FaceTest {
    private static final String[] FACE = {
        "int skill(int,int,int,int)", "int libre(int,int)", "int set(int,int)",
        "boolean lineUp(int,int,int,int,int,int,int)", "int begin(int)", "int rally(int)", "int may(int,int,int)",
        "int change(int,int,int)", "int free(int,int)", "int pause(int)", "int wrong(int)", "int at(int,int)",
        "int of(int,int)", "int count(int)", "int served(int,int)", "boolean feet(int,int,int,int)",
        "int overlap(int)", "int sign(int)", "boolean end(int)", "int sheet()", "int odds(int,int,int)",
        "int chance()", "int weight()", "int turn(int,int)", "int advice(int)", "int row(int)"};

    public static void main(String[] args) throws ReflectiveOperationException {
        Class<?> c = SixWhoTurn.class;
        Check.due("public and final", c.getModifiers(), Modifier.PUBLIC | Modifier.FINAL);
        Check.due("one constructor", c.getDeclaredConstructors().length, 1);
        Constructor<?> made = c.getDeclaredConstructors()[0];
        Check.due("it is public", made.getModifiers(), Modifier.PUBLIC);
        Check.due("it takes nothing", made.getParameterCount(), 0);
        methods(c);
        fields(c);
        Check.due("row throws", c.getMethod("row", int.class).getExceptionTypes()[0] == java.util.NoSuchElementException.class, true);
        Check.finish();
    }

    private static void methods(Class<?> c) {
        Set<String> open = new TreeSet<>();
        Set<String> openNames = new TreeSet<>();
        Set<String> hidden = new TreeSet<>();
        for (Method m : c.getDeclaredMethods()) {
            if (m.isSynthetic()) {
                continue;
            }
            if (Modifier.isPrivate(m.getModifiers())) {
                hidden.add(m.getName());
                continue;
            }
            Check.due(m + " is public alone", m.getModifiers(), Modifier.PUBLIC);
            Check.due(m + " says what it throws", m.getExceptionTypes().length, m.getName().equals("row") ? 1 : 0);
            StringBuilder types = new StringBuilder();
            for (Class<?> type : m.getParameterTypes()) {
                types.append(types.length() == 0 ? "" : ",").append(type.getName());
            }
            open.add(m.getReturnType() + " " + m.getName() + "(" + types + ")");
            openNames.add(m.getName());
        }
        for (String call : FACE) {
            Check.due("there is " + call, open.contains(call), true);
        }
        open.removeAll(Arrays.asList(FACE));
        Check.due("no other: " + open, open.size(), 0);
        hidden.retainAll(openNames);
        Check.due("no private one of a public name: " + hidden, hidden.size(), 0);
    }

    private static void fields(Class<?> c) throws ReflectiveOperationException {
        for (Field f : c.getDeclaredFields()) {
            boolean open = f.getName().equals("NONE");
            Check.due(f + " is private", Modifier.isPrivate(f.getModifiers()), !open);
            if (Modifier.isStatic(f.getModifiers())) {
                Check.due(f + " is final", Modifier.isFinal(f.getModifiers()), true);
            }
        }
        Field none = c.getField("NONE");
        Check.due("NONE is a public constant", none.getModifiers(), Modifier.PUBLIC | Modifier.STATIC | Modifier.FINAL);
        Check.due("NONE", none.getInt(null), -1);
    }
}
