import java.lang.reflect.Constructor;
import java.lang.reflect.Field;
import java.lang.reflect.Method;
import java.lang.reflect.Modifier;
import java.util.Arrays;
import java.util.HashSet;
import java.util.Set;
import java.util.stream.Collectors;

/** The public face is the document's, no more and no less; what is inside is private. */
public final class FaceTest {
    private static final String FACE = """
        int road(int, int, boolean)
        int post(int, int, boolean)
        int door(int, int)
        int shut(int, boolean)
        int way(int, int, int)
        int blind(int, int)
        int talk(int, int, int)
        int piece(int, int, int, int, int, int, int)
        int about(int, int)
        int at(int, int, int)
        int row(int, int, int, int)
        int fits(int, int, int, int)
        int scan(int)
        int finding(int, int)
        int clear(int, int)
        long nothing(int, int)
        int chain(int, int, int, int)
        int count(int, int, int)
        long odds(int, int, int)
        int group(int, int)
        int likes(int, int)
        int put(int, int)
        int told(int, int)
        int miss()
        int bar(int, int, boolean)
        int grow(int, int, int, int)
        int gone(int, int, int, int)
        int answer(int, int)
        int next(int, int)
        int rows(int)
        int work(int, int, int)
        int still(int, int)
        int parted(int, int, int)
        int least(int, int, int)
        int may(int, int, int)
        int look(int, int, int)
        int looks(int, int)
        int sheet(int, int, int)
        int lose(int)
        int set(int, int, int)
        long cell(int, int, int)
        int copy(int, int, int, int, int)
        int tell(int)
        int call(int)
        int as(int, int)
        int trace()
        int fault()
        int many(int)
        """;

    public static void main(String[] args) throws ReflectiveOperationException {
        Check c = new Check();
        Class<?> face = WireWatch.class;
        c.due("public and final", face.getModifiers(), Modifier.PUBLIC | Modifier.FINAL);
        Set<String> due = new HashSet<>(Arrays.asList(FACE.strip().split("\n")));
        Set<String> names = due.stream().map(s -> s.replaceAll("^\\w+ |\\(.*", "")).collect(Collectors.toSet());
        for (Method m : face.getDeclaredMethods()) {
            boolean isPublic = m.getModifiers() == Modifier.PUBLIC;
            c.isTrue("public or private: " + m, isPublic || Modifier.isPrivate(m.getModifiers()));
            c.isTrue("in the face: " + m, !isPublic || due.remove(told(m)));
            c.isTrue("a private name of its own: " + m, isPublic || !names.contains(m.getName()));
        }
        c.isTrue("missing: " + due, due.isEmpty());
        Constructor<?>[] makers = face.getDeclaredConstructors();
        c.due("constructors", makers.length, 1);
        c.isTrue("public, without arguments", makers[0].getModifiers() == Modifier.PUBLIC
            && makers[0].getParameterCount() == 0);
        constants(c, face);
        inside(c, face, names);
        c.end();
    }

    private static String told(Method m) {
        String kinds = Arrays.stream(m.getParameterTypes()).map(Class::getName).collect(Collectors.joining(", "));
        return m.getReturnType().getName() + " " + m.getName() + "(" + kinds + ")";
    }

    private static void constants(Check c, Class<?> face) throws ReflectiveOperationException {
        String[] names = {"UNKNOWN", "OUTSIDE", "STATE", "FULL", "NONE"};
        int[] values = {-1, -2, -3, -4, -9};
        for (int k = 0; k < names.length; k++) {
            Field f = face.getField(names[k]);
            c.due(names[k], f.getInt(null), values[k]);
            c.isTrue(names[k] + " is an int", f.getType() == int.class);
        }
        c.due("LOST", face.getField("LOST").getLong(null), Long.MIN_VALUE);
        for (Field f : face.getDeclaredFields()) {
            boolean isPublic = f.getModifiers() == (Modifier.PUBLIC | Modifier.STATIC | Modifier.FINAL);
            c.isTrue("public constant or private: " + f, isPublic || Modifier.isPrivate(f.getModifiers()));
            c.isTrue("no static state: " + f, !Modifier.isStatic(f.getModifiers()) || Modifier.isFinal(f.getModifiers()));
        }
        c.due("public constants", face.getFields().length, 6);
    }

    private static void inside(Check c, Class<?> face, Set<String> names) {
        c.isTrue("at most twelve classes", face.getDeclaredClasses().length + 1 <= 12);
        c.isTrue("few fields", fields(face) <= 20);
        for (Class<?> part : face.getDeclaredClasses()) {
            c.isTrue("static: " + part, Modifier.isStatic(part.getModifiers()) && !Modifier.isPublic(part.getModifiers()));
            c.isTrue("few fields: " + part, fields(part) <= 20);
            for (Field f : part.getDeclaredFields()) {
                boolean isStatic = Modifier.isStatic(f.getModifiers());
                c.isTrue("no static state: " + f, !isStatic || Modifier.isFinal(f.getModifiers()));
            }
            for (Method m : part.getDeclaredMethods()) {
                c.isTrue("a name of its own: " + m, !names.contains(m.getName()));
                c.isTrue("at most seven parameters: " + m, m.getParameterCount() <= 7);
            }
        }
    }

    private static long fields(Class<?> part) {
        return Arrays.stream(part.getDeclaredFields()).filter(f -> !Modifier.isStatic(f.getModifiers())).count();
    }
}
