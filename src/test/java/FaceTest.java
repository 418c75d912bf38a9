import java.lang.reflect.Constructor;
import java.lang.reflect.Field;
import java.lang.reflect.Method;
import java.lang.reflect.Modifier;
import java.util.Set;
import java.util.TreeSet;

/** The public face is the document's, and nothing else can be seen from outside. */
public final class FaceTest {
    private static final String[] FACE = {
        "int stall(int)", "int canon()", "boolean wish(int,int,boolean)", "boolean takes(int,int)",
        "int leaves(int)", "int moved(int,int)", "int mark(int,int,int,int)", "boolean box(int,int)",
        "int night()", "int marked(int,int,int,int)", "int points(int,int,int)", "int share(int,int,int)",
        "int paid(int,int)", "int back(int)", "int feed(int,int,int,int,int)", "int end(int)", "int open()",
        "boolean votes(int,boolean)", "boolean gives(int,int)", "int close(int)", "boolean undo(int)",
        "int holds(int,int,int)", "int vote(int)", "int about(int,int)", "int count(int)",
    };

    public static void main(String[] args) {
        Set<String> want = new TreeSet<>(Set.of(FACE));
        Set<String> seen = new TreeSet<>();
        for (Method method : StallBook.class.getDeclaredMethods()) {
            if (!Modifier.isPrivate(method.getModifiers())) {
                Check.due(method + " is public", Modifier.isPublic(method.getModifiers()), true);
                Check.due(method + " is static", Modifier.isStatic(method.getModifiers()), false);
                seen.add(told(method));
            }
        }
        Check.due("the methods " + seen + " are " + want, seen.equals(want), true);
        for (Field field : StallBook.class.getDeclaredFields()) {
            boolean isPrivate = Modifier.isPrivate(field.getModifiers());
            Check.due(field + " is private but for NONE", isPrivate, !field.getName().equals("NONE"));
        }
        Constructor<?>[] makers = StallBook.class.getDeclaredConstructors();
        Check.due("constructors", makers.length, 1);
        Check.due("the constructor is public", Modifier.isPublic(makers[0].getModifiers()), true);
        Check.due("its parameters", makers[0].getParameterCount(), 0);
        Check.due("the class is final", Modifier.isFinal(StallBook.class.getModifiers()), true);
        Check.due("NONE", StallBook.NONE, -1);
        Check.finish("FaceTest");
    }

    private static String told(Method method) {
        StringBuilder text = new StringBuilder();
        text.append(method.getReturnType().getName()).append(' ').append(method.getName()).append('(');
        Class<?>[] takes = method.getParameterTypes();
        for (int i = 0; i < takes.length; i++) {
            text.append(i == 0 ? "" : ",").append(takes[i].getName());
        }
        return text.append(')').toString();
    }
}
