import java.lang.reflect.Constructor;
import java.lang.reflect.Field;
import java.lang.reflect.Method;
import java.lang.reflect.Modifier;
import java.util.Set;
import java.util.TreeSet;

/** The public face: every constant, the constructor, every method, and nothing else that can be seen. */
public final class FaceTest {
    private static final String[] METHODS = {"int probe(int,int,int)", "int pace(int,int)", "int dead(int,boolean)",
        "int delay(int,int,int)", "int point(int,int,int,int,int)", "int clear()", "int pointAt(int,int)", "int look(int)",
        "int sample(int,int,int)", "int window(int,int)", "int weight(int,int,int)", "int sum(int,int,int)",
        "int mean(int,int,int)", "int picture(int,int,int,int,int,int,int)", "int pixel(int,int,int)", "int about(int,int)",
        "int differ(int,int)", "int turn(int,int,int,int)", "int fan(int,int,int,int)", "int fanAt(int,int)",
        "int board(int,int,int,int,int)", "int caliper(int,int,int,int)", "int cap(int)", "int tick(int)", "int count(int)",
        "long digest()"};

    public static void main(String[] args) {
        constants();
        members();
        methods();
        Check.end("FaceTest");
    }

    private static void constants() {
        Check.due("NONE", SoundBoard.NONE, -1);
        Check.due("BAD", SoundBoard.BAD, -2);
        Check.due("NO", SoundBoard.NO, -3);
        Check.due("FULL", SoundBoard.FULL, -4);
        Check.due("HOT", SoundBoard.HOT, -5);
    }

    private static void members() {
        Class<?> face = SoundBoard.class;
        Check.due("the class is public and final", face.getModifiers(), Modifier.PUBLIC | Modifier.FINAL);
        Constructor<?>[] makers = face.getDeclaredConstructors();
        Check.due("one constructor", makers.length, 1);
        Check.holds("it is public", Modifier.isPublic(makers[0].getModifiers()) && makers[0].getParameterCount() == 0);
        Set<String> constants = Set.of("NONE", "BAD", "NO", "FULL", "HOT");
        for (Field field : face.getDeclaredFields()) {
            boolean isPublic = constants.contains(field.getName());
            int modifiers = field.getModifiers();
            Check.holds(field.getName(), isPublic ? Modifier.isPublic(modifiers) : Modifier.isPrivate(modifiers));
            Check.holds(field.getName() + " is final", !Modifier.isStatic(modifiers) || Modifier.isFinal(modifiers));
        }
        fewFields(face);
        for (Class<?> inside : face.getDeclaredClasses()) {
            fewFields(inside);
            int modifiers = inside.getModifiers();
            Check.holds(inside.getName() + " is static", Modifier.isStatic(modifiers));
            Check.holds(inside.getName() + " is not public", !Modifier.isPublic(modifiers) && !Modifier.isProtected(modifiers));
        }
        Check.holds("at most twelve classes", face.getDeclaredClasses().length <= 11);
    }

    private static void fewFields(Class<?> one) {
        int fields = 0;
        for (Field field : one.getDeclaredFields()) {
            fields += Modifier.isStatic(field.getModifiers()) ? 0 : 1;
        }
        Check.holds(one.getName() + " has at most twenty fields", fields <= 20);
    }

    private static void methods() {
        Set<String> due = new TreeSet<>(Set.of(METHODS));
        Set<String> names = new TreeSet<>();
        for (String method : METHODS) {
            names.add(method.substring(method.indexOf(' ') + 1, method.indexOf('(')));
        }
        for (Method method : SoundBoard.class.getDeclaredMethods()) {
            if (Modifier.isPrivate(method.getModifiers())) {
                Check.holds(method.getName() + " is private and bears no public name", !names.contains(method.getName()));
                continue;
            }
            StringBuilder seen = new StringBuilder(method.getReturnType().getName() + " " + method.getName() + "(");
            for (Class<?> type : method.getParameterTypes()) {
                seen.append(seen.charAt(seen.length() - 1) == '(' ? "" : ",").append(type.getName());
            }
            seen.append(")");
            Check.holds(seen + " is of the face", due.remove(seen.toString()));
            Check.due(seen + " is public alone", method.getModifiers(), Modifier.PUBLIC);
        }
        Check.holds("missing: " + due, due.isEmpty());
    }
}
