import java.lang.reflect.Constructor;
import java.lang.reflect.Field;
import java.lang.reflect.Method;
import java.lang.reflect.Modifier;
import java.util.Arrays;
import java.util.TreeSet;

/** The face has the document's members and shows no other one. */
public final class FaceTest {
    private static final String[] METHODS = {
        "boolean unit(int)", "int read()", "int person(int)", "boolean advance(int,long)", "int trip(int,long)",
        "boolean cost(int,int,long)", "int days(int,int,int)", "int settle(int)", "long part(int,int)",
        "long share(int,int,int)", "long carried(int)", "boolean sums(int)", "boolean open(int)", "int row(int,long)",
        "int enter()", "int drop()", "int closeMonth(int)", "int correct(int,int)", "long balance(int,int)",
        "long entry(int,int,int)"};

    public static void main(String[] args) {
        Due due = new Due();
        due.is("NONE", CrewShares.NONE, -1);
        due.yes("the class is public and final", (CrewShares.class.getModifiers() & 0x11) == 0x11);
        TreeSet<String> shown = new TreeSet<>();
        for (Method m : CrewShares.class.getDeclaredMethods()) {
            if (!Modifier.isPrivate(m.getModifiers())) {
                StringBuilder types = new StringBuilder();
                for (Class<?> c : m.getParameterTypes()) {
                    types.append(types.length() == 0 ? "" : ",").append(c.getName());
                }
                shown.add(m.getReturnType().getName() + " " + m.getName() + "(" + types + ")");
                due.yes(m.getName() + " is public", Modifier.isPublic(m.getModifiers()));
            }
        }
        due.yes("the methods are those of the document, not " + shown,
            shown.equals(new TreeSet<>(Arrays.asList(METHODS))));
        for (Field f : CrewShares.class.getDeclaredFields()) {
            due.yes(f.getName() + " is private", Modifier.isPrivate(f.getModifiers()) || f.getName().equals("NONE"));
        }
        Constructor<?>[] made = CrewShares.class.getDeclaredConstructors();
        due.is("constructors", made.length, 1);
        due.yes("the constructor is public", Modifier.isPublic(made[0].getModifiers()));
        due.is("public classes inside", CrewShares.class.getClasses().length, 0);
        due.end();
    }
}
