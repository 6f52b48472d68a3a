import java.lang.reflect.Constructor;
import java.lang.reflect.Field;
import java.lang.reflect.Method;
import java.lang.reflect.Modifier;
import java.util.HashSet;
import java.util.Set;
import java.util.TreeSet;

/** The public face, and the rules of the language that reflection can see. */
public final class FaceTest {
    private static final String[] FACE = {
        "int open(int)", "int setLimit(int,int)", "boolean block(int,boolean)", "int setRate(int,char,int)",
        "int promote(int,int,int)", "int setCurrency(int,int)", "int buy(int,char,int)",
        "int buyOn(int,char,int,int)", "int abroad(int,int,int)", "int pay(int,int)", "int returns(int,int)",
        "int dispute(int,int)", "long settle(int,int,boolean)", "long reverse(int,int)", "int plan(int)",
        "int redeem(int,int)", "int pass(int)", "long owed(int)", "long bucket(int,char)", "long credit(int)",
        "long statement(int,int)", "long told(int,int)", "long difference(int,int)", "long least(int,int)",
        "long interest(int,int)", "boolean hadGrace(int,int)", "char paid(int,int)", "long missing(int)",
        "int missed(int)", "boolean isOff(int)", "long points(int)", "int events(int)", "char kindOf(int,int)",
        "boolean isBack(int,int)", "int sum(int,int)", "char why(int,char,int)", "int reasons(int,char,int)",
        "long collected()", "int today()", "long checksum()", "float missedShare()", "double meanOwed()",
        "boolean isSound()",
    };

    public static void main(String[] args) {
        Class<?> c = StatementCycle.class;
        Checks.that("the class is public and final",
                Modifier.isPublic(c.getModifiers()) && Modifier.isFinal(c.getModifiers()));
        Set<String> want = new TreeSet<>(Set.of(FACE));
        Set<String> got = new TreeSet<>();
        Set<String> names = new HashSet<>();
        for (Method m : c.getDeclaredMethods()) {
            if (!Modifier.isPrivate(m.getModifiers())) {
                got.add(told(m));
                names.add(m.getName());
            }
        }
        Checks.same("the face", got, want);
        for (Constructor<?> k : c.getDeclaredConstructors()) {
            Checks.that("constructor " + k, Modifier.isPublic(k.getModifiers()) && k.getParameterCount() == 0);
        }
        ofClass(c, names);
        for (Class<?> inner : c.getDeclaredClasses()) {
            Checks.that(inner + " is static", Modifier.isStatic(inner.getModifiers()));
            Checks.that(inner + " is not public", !Modifier.isPublic(inner.getModifiers()));
            ofClass(inner, names);
        }
        Checks.that("at most twelve classes", c.getDeclaredClasses().length < 12);
        Checks.end();
    }

    private static String told(Method m) {
        StringBuilder types = new StringBuilder();
        for (Class<?> type : m.getParameterTypes()) {
            types.append(types.length() == 0 ? "" : ",").append(type);
        }
        return m.getReturnType() + " " + m.getName() + "(" + types + ")";
    }

    private static void ofClass(Class<?> c, Set<String> faceNames) {
        int fields = 0;
        for (Field f : c.getDeclaredFields()) {
            Checks.that(f + " is private", Modifier.isPrivate(f.getModifiers()));
            boolean isStatic = Modifier.isStatic(f.getModifiers());
            Checks.that(f + " is final if it is static", !isStatic || Modifier.isFinal(f.getModifiers()));
            fields += isStatic ? 0 : 1;
        }
        Checks.that(c + " has at most twenty fields", fields <= 20);
        for (Method m : c.getDeclaredMethods()) {
            Checks.that(m + " has at most seven parameters", m.getParameterCount() <= 7);
            Checks.that(m + " bears no name of the face if it is private",
                    !Modifier.isPrivate(m.getModifiers()) || !faceNames.contains(m.getName()));
        }
    }
}
