import java.lang.reflect.Field;
import java.lang.reflect.Method;
import java.lang.reflect.Modifier;
import java.util.TreeSet;

/** The public face: the constants, the constructor and every method, and nothing else that can be seen. */
public final class FaceTest {
    private static final String[] METHODS = {
        "int letters(long)", "int blank()", "int fault(int)", "int cup()", "int row()", "int river()",
        "int cupTold(int)", "int doing(int,int)", "int as(int,int)", "int leaf(int,int,int)", "int about(int,int)",
        "int ticks(int,int)", "int still()", "int round(int,int)", "int second(int)", "int would(int,int,int)",
        "int ends(int,int)", "int lies(int,int)", "int line(int,int,int)", "int want(int,int)", "int off(int)",
        "int found(int)", "int seen(int,int)", "int read()", "int tells()", "int apart(int,int,int)",
        "int picture(int,int)", "int drag()", "int point(int,int,int,int)", "int cuts(int,int,int)",
        "int firstCut(int,int)", "int saves(int,int,int)", "int image()", "int restore()", "int count(int)",
        "long digest()",
    };

    private static String told(Method m) {
        StringBuilder s = new StringBuilder(m.getReturnType() + " " + m.getName() + "(");
        for (int i = 0; i < m.getParameterCount(); i++) {
            s.append(i == 0 ? "" : ",").append(m.getParameterTypes()[i]);
        }
        return s.append(")").toString();
    }

    public static void main(String[] args) {
        Due due = new Due();
        due.is("NONE", LeavesInCups.NONE, -1);
        due.is("UNKNOWN", LeavesInCups.UNKNOWN, -101);
        due.is("OUTSIDE", LeavesInCups.OUTSIDE, -102);
        due.is("STATE", LeavesInCups.STATE, -103);
        due.is("FULL", LeavesInCups.FULL, -104);

        TreeSet<String> wanted = new TreeSet<>(java.util.List.of(METHODS));
        TreeSet<String> seen = new TreeSet<>();
        TreeSet<String> hiddenNames = new TreeSet<>();
        TreeSet<String> publicNames = new TreeSet<>();
        for (Method m : LeavesInCups.class.getDeclaredMethods()) {
            if (Modifier.isPrivate(m.getModifiers())) {
                hiddenNames.add(m.getName());
            } else {
                seen.add(told(m));
                publicNames.add(m.getName());
                due.isTrue(m.getName() + " is public", Modifier.isPublic(m.getModifiers()));
            }
        }
        due.isTrue("the methods are those of the face: " + seen, seen.equals(wanted));
        hiddenNames.retainAll(publicNames);
        due.isTrue("no private method has a public name: " + hiddenNames, hiddenNames.isEmpty());

        int constants = 0;
        for (Field f : LeavesInCups.class.getDeclaredFields()) {
            boolean isPrivate = Modifier.isPrivate(f.getModifiers());
            constants += isPrivate ? 0 : 1;
            boolean isConstant = Modifier.isStatic(f.getModifiers()) && Modifier.isFinal(f.getModifiers());
            due.isTrue(f.getName() + " is hidden or a constant", isPrivate || isConstant);
        }
        due.is("the public constants", constants, 5);
        due.is("the constructors", LeavesInCups.class.getConstructors().length, 1);
        due.is("all constructors", LeavesInCups.class.getDeclaredConstructors().length, 1);
        due.isTrue("the class is final", Modifier.isFinal(LeavesInCups.class.getModifiers()));
        due.end();
    }
}
