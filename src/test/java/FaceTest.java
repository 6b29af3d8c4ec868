import java.lang.reflect.Constructor;
import java.lang.reflect.Field;
import java.lang.reflect.Method;
import java.lang.reflect.Modifier;
import java.util.Set;
import java.util.TreeSet;

/** The public face is the document's and no more; the constants have their values. */
public final class FaceTest {
    private static final String[] METHODS = {
        "int contest(int,int)", "int mark(int,int,int,int)", "int yes(int,int,int,boolean)",
        "int pupil(int,int,boolean)", "int rule(int,int)", "int score(int,int,int)", "int beats(int,int,int)",
        "int place(int,int,int)", "int passed(int,int,int)", "int differ(int,int,int,int)",
        "int reach(int,int,int,int,int)", "int sway(int,int,int,int)", "int weight(int,int)", "int total(int)",
        "int last(int)", "int prize(int,int)", "int wins(int)", "int rest()", "int work(int,int)",
        "int programme(int,int)", "int plan(int,int,int)", "int chosen(int)", "int heard(int)",
        "int drawn(int,int)", "int count(int)", "long digest()"};

    public static void main(String[] args) {
        Due due = new Due("FaceTest");
        due.is("NONE", PianoJury.NONE, -1);
        due.is("UNKNOWN", PianoJury.UNKNOWN, -101);
        due.is("OUTSIDE", PianoJury.OUTSIDE, -102);
        due.is("STATE", PianoJury.STATE, -103);
        due.is("FULL", PianoJury.FULL, -104);
        due.is("the class is public and final", PianoJury.class.getModifiers(), Modifier.PUBLIC | Modifier.FINAL);
        checkMethods(due);
        checkFields(due);
        checkConstructors(due);
        due.end();
    }

    private static void checkMethods(Due due) {
        Set<String> open = new TreeSet<>();
        Set<String> openNames = new TreeSet<>();
        for (Method m : PianoJury.class.getDeclaredMethods()) {
            if (!Modifier.isPrivate(m.getModifiers())) {
                due.is(m + " is public and no more", m.getModifiers(), Modifier.PUBLIC);
                open.add(m.getReturnType() + " " + m.getName() + namesOf(m.getParameterTypes()));
                openNames.add(m.getName());
            }
        }
        Set<String> told = new TreeSet<>(Set.of(METHODS));
        due.is("the methods are " + told + ", here " + open, open.equals(told) ? 1 : 0, 1);
        for (Method m : PianoJury.class.getDeclaredMethods()) {
            if (Modifier.isPrivate(m.getModifiers())) {
                due.is(m + " has a name of its own", openNames.contains(m.getName()) ? 1 : 0, 0);
            }
        }
    }

    private static void checkFields(Due due) {
        Set<String> constants = Set.of("NONE", "UNKNOWN", "OUTSIDE", "STATE", "FULL");
        int open = 0;
        for (Field f : PianoJury.class.getDeclaredFields()) {
            boolean isStatic = Modifier.isStatic(f.getModifiers());
            due.is(f + " is final, if it is static", isStatic && !Modifier.isFinal(f.getModifiers()) ? 1 : 0, 0);
            if (!Modifier.isPrivate(f.getModifiers())) {
                open++;
                due.is(f + " is a constant of the document", constants.contains(f.getName()) ? 1 : 0, 1);
            }
        }
        due.is("constants", open, constants.size());
    }

    private static void checkConstructors(Due due) {
        Constructor<?>[] all = PianoJury.class.getDeclaredConstructors();
        due.is("constructors", all.length, 1);
        due.is("its parameters", all[0].getParameterCount(), 0);
        due.is("it is public", all[0].getModifiers(), Modifier.PUBLIC);
    }

    private static String namesOf(Class<?>[] types) {
        StringBuilder names = new StringBuilder("(");
        for (int i = 0; i < types.length; i++) {
            names.append(i == 0 ? "" : ",").append(types[i].getName());
        }
        return names.append(")").toString();
    }
}
