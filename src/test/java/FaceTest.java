import java.lang.reflect.Constructor;
import java.lang.reflect.Field;
import java.lang.reflect.Method;
import java.lang.reflect.Modifier;
import java.util.Arrays;
import java.util.HashSet;
import java.util.Set;

/** The face of the class is the document's, and no member but those is seen from outside. */
public final class FaceTest {
    private static final String[] FACE = {
        "ground(int,int)", "frost(int)", "rider(int,int)", "riderIs(int,int)", "as(int,int)", "set(int,int,int)",
        "way(int,int)", "halt(int)", "feed(long,int)", "text(int)", "untell(int)", "hours(int)", "draws(int)",
        "seed(int)", "print(int,int)", "cellIs(int,int)", "follow(int,int,int,int)", "then(int,int,int)",
        "thenCell(int,int,int)", "loads(int,int,int)", "kinds(int,int,int)", "leastFound(int,int)",
        "decoy(int,int,int)", "rest(int,int)", "voice(int,int,int)", "body(int)", "sheet(int,int,int)",
        "put(int,int,int)", "move(int,int,int,int,int)", "ways(int,int)", "judge(int,int)", "image()", "restore()",
        "tell(int)", "check()", "count(int)", "told(int)"};

    public static void main(String[] args) {
        Set<String> due = new HashSet<>(Arrays.asList(FACE));
        Set<String> names = new HashSet<>();
        for (String one : FACE) {
            names.add(one.substring(0, one.indexOf('(')));
        }
        Class<?> type = ShodBackwards.class;
        Due.is("face: public, final", type.getModifiers() & (Modifier.PUBLIC | Modifier.FINAL),
            Modifier.PUBLIC | Modifier.FINAL);
        int seen = 0;
        for (Method method : type.getDeclaredMethods()) {
            if (Modifier.isPrivate(method.getModifiers())) {
                Due.is("face: a private " + method.getName(), names.contains(method.getName()) ? 1 : 0, 0);
                continue;
            }
            seen++;
            Due.is("face: " + method, due.contains(signature(method)) ? 1 : 0, 1);
            Due.is("face: public " + method, method.getModifiers(), Modifier.PUBLIC);
            Due.is("face: int " + method, method.getReturnType() == int.class ? 1 : 0, 1);
        }
        Due.is("face: all", seen, FACE.length);
        Constructor<?>[] constructors = type.getDeclaredConstructors();
        Due.is("face: one constructor", constructors.length, 1);
        Due.is("face: public constructor", constructors[0].getModifiers(), Modifier.PUBLIC);
        Due.is("face: plain constructor", constructors[0].getParameterCount(), 0);
        for (Field field : type.getDeclaredFields()) {
            Due.is("face: private " + field, Modifier.isPrivate(field.getModifiers()) ? 1 : 0, 1);
        }
        for (Class<?> inside : type.getDeclaredClasses()) {
            int flags = inside.getModifiers();
            Due.is("face: static " + inside, Modifier.isStatic(flags) && !Modifier.isPublic(flags) ? 1 : 0, 1);
            for (Method method : inside.getDeclaredMethods()) {
                Due.is("face: inside " + method, names.contains(method.getName()) ? 1 : 0, 0);
            }
        }
        Due.end();
    }

    private static String signature(Method method) {
        StringBuilder text = new StringBuilder(method.getName());
        text.append('(');
        for (Class<?> parameter : method.getParameterTypes()) {
            text.append(text.charAt(text.length() - 1) == '(' ? "" : ",").append(parameter.getName());
        }
        return text.append(')').toString();
    }
}
