import java.lang.reflect.Constructor;
import java.lang.reflect.Field;
import java.lang.reflect.Method;
import java.lang.reflect.Modifier;
import java.util.Arrays;
import java.util.TreeSet;

/** The public face is the document's, member by member, and nothing else can be seen from outside. */
public final class FaceTest {
    private static final String[] METHODS = {
        "int feed(int,int,int,int,int)", "boolean end(int)", "int fault(int)", "int text(int)", "int corner(int,int)",
        "int street(int,int)", "int walker(int,int) throws java.util.NoSuchElementException", "boolean law(int)",
        "boolean council(int)", "int day()", "int wall(int)", "int lamp(int)", "int moves(int,int)", "int preach(int)",
        "int give(int)", "int years(int,long)", "int undo()", "int log(int,int)", "int walk(int,int)", "int check(int,int)",
        "int far(int,int)", "int way(int,int)", "int feast(int,int)", "int soon(int)", "int worn(int,int)",
        "int seen(int,boolean)", "int knocked(int)", "int ask()", "int walls(int)", "int parted(int,int)",
        "int draws(int,int)", "int goes(int)", "int goers(int)", "int game(int,int,int,int,int)", "int rests(int,int,int)",
        "int odds(int,int)", "int shares(int,int)", "int all(int)", "int around(int,int)", "int image()", "int back()",
        "int count(int)"};

    public static void main(String[] args) throws ReflectiveOperationException {
        Class<?> face = WallChapels.class;
        Kit.same("public and final", face.getModifiers() == (Modifier.PUBLIC | Modifier.FINAL), true);
        Kit.same("of no other class", face.getSuperclass() == Object.class && face.getInterfaces().length == 0, true);
        TreeSet<String> due = new TreeSet<>(Arrays.asList(METHODS));
        for (Method method : face.getDeclaredMethods()) {
            if (!Modifier.isPrivate(method.getModifiers()) && !method.isSynthetic()) {
                Kit.same("of the face: " + told(method), due.remove(told(method)), true);
                Kit.same("public and no more: " + told(method), method.getModifiers(), Modifier.PUBLIC);
            }
        }
        Kit.same("missing: " + due, due.size(), 0);
        Constructor<?>[] makers = face.getConstructors();
        Kit.same("one constructor", makers.length, 1);
        Kit.same("without arguments", makers[0].getParameterCount(), 0);
        Kit.same("no hidden constructor", face.getDeclaredConstructors().length, 1);
        constants(face);
        Kit.close();
    }

    private static String told(Method method) {
        StringBuilder b = new StringBuilder(method.getReturnType().getName()).append(' ').append(method.getName()).append('(');
        for (Class<?> type : method.getParameterTypes()) {
            b.append(b.charAt(b.length() - 1) == '(' ? "" : ",").append(type.getName());
        }
        b.append(')');
        for (Class<?> type : method.getExceptionTypes()) {
            b.append(" throws ").append(type.getName());
        }
        return b.toString();
    }

    private static void constants(Class<?> face) throws ReflectiveOperationException {
        int seen = 0;
        for (Field field : face.getDeclaredFields()) {
            if (!Modifier.isPrivate(field.getModifiers())) {
                seen++;
                Kit.same("a constant: " + field.getName(), field.getModifiers(), Modifier.PUBLIC | Modifier.STATIC | Modifier.FINAL);
                Kit.same("an int: " + field.getName(), field.getType() == int.class, true);
            }
        }
        Kit.same("constants", seen, 2);
        Kit.same("NONE", face.getField("NONE").getInt(null), -1);
        Kit.same("HIDDEN", face.getField("HIDDEN").getInt(null), -1000000);
    }
}
