import java.lang.reflect.Constructor;
import java.lang.reflect.Field;
import java.lang.reflect.Method;
import java.lang.reflect.Modifier;
import java.util.HashSet;
import java.util.Set;
import java.util.TreeSet;

/** The public face, and the rules of the language that reflection can see. */
public final class FaceTest {
    /** As the document writes it, without the names of parameters, and "Exception" left out of names. */
    private static final String[] FACE = {
        "int open(int) throws IllegalArgument,IllegalState",
        "int setLimit(int,int) throws IndexOutOfBounds,IllegalArgument",
        "boolean block(int,boolean) throws IndexOutOfBounds",
        "int setRate(int,char,int) throws IndexOutOfBounds,IllegalArgument,IllegalState",
        "int promote(int,int,int) throws IndexOutOfBounds,IllegalArgument,IllegalState",
        "int setCurrency(int,int) throws IllegalArgument",
        "int buy(int,char,int) throws IndexOutOfBounds,IllegalArgument,UnsupportedOperation,IllegalState",
        "int buyOn(int,char,int,int) throws IndexOutOfBounds,IllegalArgument,IllegalState",
        "int abroad(int,int,int) throws IndexOutOfBounds,IllegalArgument,UnsupportedOperation,IllegalState",
        "int pay(int,int) throws IndexOutOfBounds,IllegalArgument,IllegalState",
        "int returns(int,int) throws IndexOutOfBounds,UnsupportedOperation,IllegalState",
        "int dispute(int,int) throws IndexOutOfBounds,UnsupportedOperation",
        "long settle(int,int,boolean) throws IndexOutOfBounds,UnsupportedOperation",
        "long reverse(int,int) throws IndexOutOfBounds,UnsupportedOperation",
        "int plan(int) throws IndexOutOfBounds,UnsupportedOperation,IllegalState",
        "int redeem(int,int) throws IndexOutOfBounds,IllegalArgument,UnsupportedOperation,IllegalState",
        "int pass(int) throws IllegalArgument,IllegalState",
        "long owed(int) throws IndexOutOfBounds",
        "long bucket(int,char) throws IndexOutOfBounds,IllegalArgument",
        "long credit(int) throws IndexOutOfBounds",
        "long statement(int,int) throws IndexOutOfBounds,NoSuchElement",
        "long told(int,int) throws IndexOutOfBounds,NoSuchElement",
        "long difference(int,int) throws IndexOutOfBounds,NoSuchElement",
        "long least(int,int) throws IndexOutOfBounds,NoSuchElement",
        "long interest(int,int) throws IndexOutOfBounds,NoSuchElement",
        "boolean hadGrace(int,int) throws IndexOutOfBounds,NoSuchElement",
        "char paid(int,int) throws IndexOutOfBounds,NoSuchElement",
        "long missing(int) throws IndexOutOfBounds",
        "int missed(int) throws IndexOutOfBounds",
        "boolean isOff(int) throws IndexOutOfBounds",
        "long points(int) throws IndexOutOfBounds",
        "int events(int) throws IndexOutOfBounds",
        "char kindOf(int,int) throws IndexOutOfBounds",
        "boolean isBack(int,int) throws IndexOutOfBounds",
        "int sum(int,int) throws IndexOutOfBounds",
        "char why(int,char,int) throws IndexOutOfBounds,IllegalArgument",
        "int reasons(int,char,int) throws IndexOutOfBounds,IllegalArgument",
        "long collected()",
        "int today()",
        "long checksum()",
        "float missedShare() throws Arithmetic",
        "double meanOwed() throws Arithmetic",
        "boolean isSound()",
    };

    public static void main(String[] args) {
        Class<?> c = StatementCycle.class;
        Checks.that("the class is public and final",
                Modifier.isPublic(c.getModifiers()) && Modifier.isFinal(c.getModifiers()));
        Set<String> want = new TreeSet<>(Set.of(FACE));
        Set<String> got = new TreeSet<>();
        Set<String> names = new HashSet<>();
        for (Method m : c.getDeclaredMethods()) {
            if (!Modifier.isPrivate(m.getModifiers())) {
                got.add(told(m));
                names.add(m.getName());
            }
        }
        Checks.same("the face", got, want);
        for (Constructor<?> k : c.getDeclaredConstructors()) {
            Checks.that("constructor " + k, Modifier.isPublic(k.getModifiers()) && k.getParameterCount() == 0);
        }
        ofClass(c, names);
        for (Class<?> inner : c.getDeclaredClasses()) {
            Checks.that(inner + " is static", Modifier.isStatic(inner.getModifiers()));
            Checks.that(inner + " is not public", !Modifier.isPublic(inner.getModifiers()));
            ofClass(inner, names);
        }
        Checks.that("at most twelve classes", c.getDeclaredClasses().length < 12);
        Checks.end();
    }

    private static String told(Method m) {
        StringBuilder types = new StringBuilder();
        for (Class<?> type : m.getParameterTypes()) {
            types.append(types.length() == 0 ? "" : ",").append(type);
        }
        StringBuilder thrown = new StringBuilder();
        for (Class<?> type : m.getExceptionTypes()) {
            thrown.append(thrown.length() == 0 ? " throws " : ",").append(type.getSimpleName().replace("Exception", ""));
        }
        return m.getReturnType() + " " + m.getName() + "(" + types + ")" + thrown;
    }

    private static void ofClass(Class<?> c, Set<String> faceNames) {
        int fields = 0;
        for (Field f : c.getDeclaredFields()) {
            Checks.that(f + " is private", Modifier.isPrivate(f.getModifiers()));
            boolean isStatic = Modifier.isStatic(f.getModifiers());
            Checks.that(f + " is final if it is static", !isStatic || Modifier.isFinal(f.getModifiers()));
            fields += isStatic ? 0 : 1;
        }
        Checks.that(c + " has at most twenty fields", fields <= 20);
        for (Method m : c.getDeclaredMethods()) {
            Checks.that(m + " has at most seven parameters", m.getParameterCount() <= 7);
            Checks.that(m + " bears no name of the face if it is private",
                    !Modifier.isPrivate(m.getModifiers()) || !faceNames.contains(m.getName()));
        }
    }
}
