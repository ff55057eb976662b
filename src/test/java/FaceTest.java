import java.lang.reflect.Constructor;
import java.lang.reflect.Field;
import java.lang.reflect.Method;
import java.lang.reflect.Modifier;
import java.util.Arrays;
import java.util.TreeSet;

/** The public face, and rules 1 and 5 of LANGUAGE.md as far as reflection tells. */
final class FaceTest {

    private static final String INDEX = " IndexOutOfBoundsException";
    private static final String STATE = " IllegalStateException";
    private static final String ARGUMENT = " IllegalArgumentException";

    private static final String[] FACE = {
        "int addShip(int)" + ARGUMENT + STATE,
        "int addSailor(int,int,boolean)" + INDEX + STATE,
        "int addWatcher()" + STATE,
        "int buyWax(int)" + ARGUMENT,
        "int sail(int)" + INDEX + STATE,
        "int comeHome(int)" + INDEX + STATE,
        "boolean sight(int,int)" + INDEX + STATE,
        "int vote(int,boolean)" + INDEX + STATE,
        "int burnNights(int)" + ARGUMENT,
        "int ships()",
        "int mastsOf(int)" + INDEX,
        "boolean isAway(int)" + INDEX,
        "boolean isLost(int)" + INDEX,
        "int nightsOut(int)" + INDEX,
        "boolean isRung(int)" + INDEX,
        "int trustIn(int)" + INDEX,
        "int voters(int)" + INDEX,
        "int votesForLost(int)" + INDEX,
        "int votesMissing(int)" + INDEX,
        "int sailors()",
        "int shipOf(int)" + INDEX,
        "int mastOf(int)" + INDEX,
        "boolean hasVoter(int)" + INDEX,
        "boolean isGivenUp(int)" + INDEX,
        "int candleOf(int)" + INDEX,
        "boolean isDark(int)" + INDEX,
        "int watchers()",
        "int trustOf(int)" + INDEX,
        "int sightings()",
        "int night()",
        "int wax()",
        "int darkCandles()",
        "int bellsUnrung()",
        "int namesOnWall()",
        "boolean wouldRing(int,int)" + INDEX + STATE,
        "int nightsUntilUnrung(int)" + INDEX + STATE,
        "int nightsUntilDark()",
        "int waxAfter(int)" + ARGUMENT,
        "int waxWanted(int)" + ARGUMENT,
        "double meanTrust()",
        "long digest()",
    };

    private FaceTest() {
    }

    static void ruleFaceIsTheDocuments() {
        TreeSet<String> found = new TreeSet<>();
        TreeSet<String> publicNames = new TreeSet<>();
        TreeSet<String> privateNames = new TreeSet<>();
        for (Method method : SailorCandles.class.getDeclaredMethods()) {
            if (Modifier.isPublic(method.getModifiers())) {
                found.add(told(method));
                publicNames.add(method.getName());
            } else {
                Check.yes(method + " is private", Modifier.isPrivate(method.getModifiers()));
                privateNames.add(method.getName());
            }
        }
        Check.equal("face", new TreeSet<>(Arrays.asList(FACE)).toString(), found.toString());
        privateNames.retainAll(publicNames);
        Check.equal("private methods with public names", "[]", privateNames.toString());
    }

    static void ruleClassIsPublicAndFinal() {
        int modifiers = SailorCandles.class.getModifiers();
        Check.yes("public", Modifier.isPublic(modifiers));
        Check.yes("final", Modifier.isFinal(modifiers));
        Constructor<?>[] constructors = SailorCandles.class.getDeclaredConstructors();
        Check.equal("constructors", 1, constructors.length);
        Check.yes("public constructor", Modifier.isPublic(constructors[0].getModifiers()));
        Check.equal("its parameters", 0, constructors[0].getParameterCount());
    }

    static void ruleFieldsArePrivateAndStaticOnesFinal() {
        for (Field field : SailorCandles.class.getDeclaredFields()) {
            Check.yes(field + " is private", Modifier.isPrivate(field.getModifiers()));
            Check.yes(field + " is final", Modifier.isFinal(field.getModifiers()));
        }
        for (Class<?> inside : SailorCandles.class.getDeclaredClasses()) {
            Check.no(inside + " is not public", Modifier.isPublic(inside.getModifiers()));
            Check.no(inside + " is not protected", Modifier.isProtected(inside.getModifiers()));
            Check.yes(inside + " is static", Modifier.isStatic(inside.getModifiers()));
        }
    }

    private static String told(Method method) {
        StringBuilder text = new StringBuilder();
        text.append(method.getReturnType().getSimpleName()).append(' ').append(method.getName()).append('(');
        String gap = "";
        for (Class<?> parameter : method.getParameterTypes()) {
            text.append(gap).append(parameter.getSimpleName());
            gap = ",";
        }
        text.append(')');
        for (Class<?> exception : method.getExceptionTypes()) {
            text.append(' ').append(exception.getSimpleName());
        }
        return text.toString();
    }
}
