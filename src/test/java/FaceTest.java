import java.lang.reflect.Constructor;
import java.lang.reflect.Field;
import java.lang.reflect.Member;
import java.lang.reflect.Method;
import java.lang.reflect.Modifier;
import java.util.Set;
import java.util.TreeSet;

/** The public face: all that the document lists, and nothing else that is not private. */
public final class FaceTest {
    private static final String[] FACE = {
        "boolean day(int)", "int merchant(int)", "int grow(int,int,int)",
        "int feed(int,int,int,int,int)", "int adopt(int)", "int fault()", "boolean undo(int)",
        "int force(int)", "int licence(int,int,int)", "int left(int)",
        "int bring(int,int,int,int)", "int custom(int)", "int half(int,int)",
        "boolean rate(int,int,int)", "int pay(int,int,int)", "int lot(int,int)", "int over(int)",
        "int fleet()", "int ship(int,int)", "int load(int,int,int,int)", "int sail(int)",
        "int sink(int)", "int sell(int,int)", "int part(int,int)", "int shipOf(int,int)",
        "int sum(int,int,int)", "int count(int)",
    };

    public static void main(String[] args) {
        Checks c = new Checks("FaceTest");
        Set<String> face = new TreeSet<>();
        Set<String> names = new TreeSet<>();
        for (Method m : StaplePort.class.getDeclaredMethods()) {
            if (!Modifier.isPrivate(m.getModifiers())) {
                face.add(described(m));
                names.add(m.getName());
                c.due(m + " is public, of the object", isPublicOfObject(m), true);
            }
        }
        c.due("methods of the face " + face, face.equals(Set.of(FACE)), true);
        for (Method m : StaplePort.class.getDeclaredMethods()) {
            if (Modifier.isPrivate(m.getModifiers())) {
                c.due("private " + m.getName() + " has a public one's name", names.contains(m.getName()), false);
            }
        }
        fields(c);
        Constructor<?>[] made = StaplePort.class.getDeclaredConstructors();
        c.due("constructors", made.length, 1);
        c.due("its parameters", made[0].getParameterCount(), 0);
        c.due("it is public", Modifier.isPublic(made[0].getModifiers()), true);
        c.due("the class is public and final",
                StaplePort.class.getModifiers() & (Modifier.PUBLIC | Modifier.FINAL),
                Modifier.PUBLIC | Modifier.FINAL);
        c.due("NONE", StaplePort.NONE, -1);
        c.end();
    }

    private static void fields(Checks c) {
        for (Field f : StaplePort.class.getDeclaredFields()) {
            boolean none = f.getName().equals("NONE");
            c.due(f + " is private", Modifier.isPrivate(f.getModifiers()), !none);
            c.due(f + " is no static state",
                    Modifier.isStatic(f.getModifiers()) && !Modifier.isFinal(f.getModifiers()), false);
        }
    }

    private static boolean isPublicOfObject(Member m) {
        return Modifier.isPublic(m.getModifiers()) && !Modifier.isStatic(m.getModifiers());
    }

    private static String described(Method m) {
        StringBuilder text = new StringBuilder(m.getReturnType() + " " + m.getName() + "(");
        for (Class<?> type : m.getParameterTypes()) {
            text.append(text.charAt(text.length() - 1) == '(' ? "" : ",").append(type);
        }
        return text.append(")").toString();
    }
}
