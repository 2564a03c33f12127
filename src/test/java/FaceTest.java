import java.lang.reflect.Field;
import java.lang.reflect.Method;
import java.lang.reflect.Modifier;
import java.util.Arrays;
import java.util.Set;
import java.util.TreeSet;

/** The public face is the document's, and nothing else can be seen from outside. */
public final class FaceTest {
    private static final String[] FACE = {
        "days(int)", "gain(int)", "road(int,int)", "seat(int,int)", "draw(int,int,int,int,int)",
        "pass(int,int)", "take(int,boolean)", "pay(int)", "protest(int)", "recourse(int,int)",
        "about(int,int)", "as(int,int)", "knows(int,int,int)", "feed(long,int)", "read()", "fault()",
        "binds(int,int,int,int,int)", "owe(int,int,int)", "owes(int,int)", "net(int)", "plan(boolean)",
        "payment(int,int)", "clear()", "coin(int,int,int)", "purse(int,int,int)", "has(int,int)",
        "settle(int,int)", "vote(int,int,int)", "rate(int)", "offer(int,int,int)", "turn()",
        "part(int,int,int)", "tell(int)", "check()", "count(int)", "found(int)"};

    private static final Due due = new Due("FaceTest");

    public static void main(String[] args) {
        Class<?> type = ChangerFair.class;
        due.holds("public and final", Modifier.isPublic(type.getModifiers()) && Modifier.isFinal(type.getModifiers()));
        due.is("constructors", 1, type.getDeclaredConstructors().length);
        due.is("public constructors without parameters", 1,
                Arrays.stream(type.getConstructors()).filter(c -> c.getParameterCount() == 0).count());
        methods(type);
        for (Field field : type.getDeclaredFields()) {
            due.holds("field " + field.getName() + " can be seen", Modifier.isPrivate(field.getModifiers()));
        }
        nested(type);
        due.end();
    }

    private static void methods(Class<?> type) {
        Set<String> seen = new TreeSet<>();
        for (Method method : type.getDeclaredMethods()) {
            if (Modifier.isPrivate(method.getModifiers())) {
                continue;
            }
            due.holds(method.getName() + " answers a long", method.getReturnType() == long.class);
            due.holds(method.getName() + " is public", Modifier.isPublic(method.getModifiers()));
            due.holds(method.getName() + " throws", method.getExceptionTypes().length == 0);
            seen.add(signature(method));
        }
        due.holds("face: " + seen, seen.equals(new TreeSet<>(Arrays.asList(FACE))));
    }

    private static String signature(Method method) {
        StringBuilder text = new StringBuilder(method.getName()).append('(');
        for (Class<?> parameter : method.getParameterTypes()) {
            text.append(text.charAt(text.length() - 1) == '(' ? "" : ",").append(parameter.getName());
        }
        return text.append(')').toString();
    }

    private static void nested(Class<?> type) {
        Set<String> names = new TreeSet<>();
        for (String face : FACE) {
            names.add(face.substring(0, face.indexOf('(')));
        }
        due.holds("at most twelve classes", type.getDeclaredClasses().length < 12);
        for (Class<?> inside : type.getDeclaredClasses()) {
            due.holds(inside.getName() + " is static", Modifier.isStatic(inside.getModifiers()));
            due.holds(inside.getName() + " isn't public", !Modifier.isPublic(inside.getModifiers()));
            for (Method method : inside.getDeclaredMethods()) {
                due.holds(inside.getName() + " has a method named as one of the face: " + method.getName(),
                        !names.contains(method.getName()));
            }
        }
        for (Method method : type.getDeclaredMethods()) {
            due.holds("a private method is named " + method.getName(),
                    !Modifier.isPrivate(method.getModifiers()) || !names.contains(method.getName()));
        }
    }
}
