import java.lang.reflect.Field;
import java.lang.reflect.Method;
import java.lang.reflect.Modifier;
import java.util.TreeSet;

/** The face: what DOC.md lists, no more, and no inner method under a public name (LANGUAGE.md, rules 1 and 2). */
public final class FaceTest {
    private static final String FACE = "beyond(int,int,int)int clock(int,int,int)int count(int)int date(int)int dial(int)int error(int)int"
        + " fault()int feed(int,int,int,int,int)int foretold(int,int,int)int hands(int,int,boolean)int heard(int,int,int,int)int"
        + " keeper(int,int)int kept(int,int)int law(int,int)int lawful(int,int)int leap(boolean)boolean mend(int,int)int oil(int)int"
        + " pennies(int,int)int plan(int,int,int,int)int rate(int)int read(int,int,int)int reckoned(int,int,int)long refit(int,int)int"
        + " regulated(int,int)int round(int,int)int sounding(int,int)int speed(int,int)long told(int,int)int trip(int,boolean)int"
        + " wait(int)int warmth(int)int wind(int,int)int witness(int,int,int,int)int";

    private FaceTest() {
    }

    public static void main(String[] args) {
        Due.is("NONE", ClockKeeper.NONE, -1);
        Due.is("VOID", ClockKeeper.VOID, -2000000000);
        methods();
        others();
        Due.end();
    }

    private static String told(Method m) {
        StringBuilder text = new StringBuilder(m.getName()).append('(');
        for (Class<?> c : m.getParameterTypes()) {
            text.append(text.charAt(text.length() - 1) == '(' ? "" : ",").append(c.getName());
        }
        return text.append(')').append(m.getReturnType().getName()).toString();
    }

    private static void methods() {
        TreeSet<String> open = new TreeSet<>();
        TreeSet<String> names = new TreeSet<>();
        for (Method m : ClockKeeper.class.getDeclaredMethods()) {
            if (!Modifier.isPrivate(m.getModifiers())) {
                open.add(told(m));
                names.add(m.getName());
            }
        }
        String all = String.join(" ", open);
        Due.is("the face is " + all, all.equals(FACE) ? 1 : 0, 1);
        for (Method m : ClockKeeper.class.getDeclaredMethods()) {
            Due.is(m + " bears a public name", Modifier.isPrivate(m.getModifiers()) && names.contains(m.getName()) ? 1 : 0, 0);
        }
        for (Class<?> c : ClockKeeper.class.getDeclaredClasses()) {
            for (Method m : c.getDeclaredMethods()) {
                Due.is(m + " bears a public name", names.contains(m.getName()) ? 1 : 0, 0);
            }
        }
    }

    private static void others() {
        for (Field f : ClockKeeper.class.getDeclaredFields()) {
            boolean constant = f.getName().equals("NONE") || f.getName().equals("VOID");
            Due.is(f + " is open", Modifier.isPublic(f.getModifiers()) ? 1 : 0, constant ? 1 : 0);
            Due.is(f + " is private", Modifier.isPrivate(f.getModifiers()) ? 1 : 0, constant ? 0 : 1);
            Due.is(f + " is static and may change",
                Modifier.isStatic(f.getModifiers()) && !Modifier.isFinal(f.getModifiers()) ? 1 : 0, 0);
        }
        Due.is("constructors", ClockKeeper.class.getDeclaredConstructors().length, 1);
        Due.is("public", Modifier.isPublic(ClockKeeper.class.getModifiers()) ? 1 : 0, 1);
        Due.is("final", Modifier.isFinal(ClockKeeper.class.getModifiers()) ? 1 : 0, 1);
        for (Class<?> c : ClockKeeper.class.getDeclaredClasses()) {
            Due.is(c + " is static", Modifier.isStatic(c.getModifiers()) ? 1 : 0, 1);
            Due.is(c + " is open", Modifier.isPublic(c.getModifiers()) || Modifier.isProtected(c.getModifiers()) ? 1 : 0, 0);
        }
        Due.is("classes are few", ClockKeeper.class.getDeclaredClasses().length <= 12 ? 1 : 0, 1);
    }
}
