import java.lang.reflect.Constructor;
import java.lang.reflect.Field;
import java.lang.reflect.Method;
import java.lang.reflect.Modifier;
import java.util.ArrayList;
import java.util.Collections;
import java.util.List;

/** The public face: the constants, and exactly the members that the document names. */
final class FaceTest {
    private static final String[] METHODS = {
        "int claim(int,int,int,int,int,int,int,boolean)", "long pledge(int,int)", "long reveal(int)",
        "long economy(int,int,int)", "boolean moratorium(int,boolean)", "long year(int)", "int discount(int)",
        "int offer(int,int,int)", "int accept(int,int)", "void vote(int,int,boolean)", "int settle(int)",
        "int thing(int)", "void sue(int)", "long seize(int,int)", "void programme(int,int,int)",
        "boolean assure(int,boolean)", "int review()", "long value(int,int)", "long offered(int,int,int)",
        "int effort(int)", "boolean areAlike()", "boolean passes(int,int)", "boolean isBearable(int)",
        "long ofClaim(int,int)", "long paidAnew(int)", "long ofState(int)"
    };
    private static final String[] CONSTANTS = {
        "NONE=-1", "CLUB=0", "BOND=1", "BANK=2", "SUPPLIER=3", "FUND=4", "OPEN=0", "PAID=1", "SWAPPED=2"
    };

    public static void main(String[] args) throws IllegalAccessException {
        Class<?> face = Claimclub.class;
        Check.same("the class is public and final", true,
            Modifier.isPublic(face.getModifiers()) && Modifier.isFinal(face.getModifiers()));
        Check.same("the methods", sorted(List.of(METHODS)), sorted(visibleMethods(face)));
        Check.same("the constants", sorted(List.of(CONSTANTS)), sorted(visibleFields(face)));
        Constructor<?>[] constructors = face.getDeclaredConstructors();
        Check.same("the constructors", 1, constructors.length);
        Check.same("the constructor is public", true, Modifier.isPublic(constructors[0].getModifiers()));
        Check.same("its parameters", 0, constructors[0].getParameterCount());
        Check.same("no private method bears the name of a public one", "[]", sorted(doubledNames(face)));
        Check.end("FaceTest");
    }

    private static List<String> visibleMethods(Class<?> face) {
        List<String> found = new ArrayList<>();
        for (Method method : face.getDeclaredMethods()) {
            if (!Modifier.isPrivate(method.getModifiers()) && !method.isSynthetic()) {
                List<String> parameters = new ArrayList<>();
                for (Class<?> parameter : method.getParameterTypes()) {
                    parameters.add(parameter.getName());
                }
                found.add(method.getReturnType() + " " + method.getName() + "(" + String.join(",", parameters) + ")");
            }
        }
        return found;
    }

    private static List<String> visibleFields(Class<?> face) throws IllegalAccessException {
        List<String> found = new ArrayList<>();
        for (Field field : face.getDeclaredFields()) {
            if (!Modifier.isPrivate(field.getModifiers()) && !field.isSynthetic()) {
                boolean isConstant = Modifier.isPublic(field.getModifiers()) && Modifier.isStatic(field.getModifiers())
                    && Modifier.isFinal(field.getModifiers()) && field.getType() == int.class;
                found.add(field.getName() + (isConstant ? "=" + field.getInt(null) : " is no constant"));
            }
        }
        return found;
    }

    private static List<String> doubledNames(Class<?> face) {
        List<String> faceNames = new ArrayList<>();
        for (Method method : face.getDeclaredMethods()) {
            if (Modifier.isPublic(method.getModifiers())) {
                faceNames.add(method.getName());
            }
        }
        List<String> doubled = new ArrayList<>();
        List<Class<?>> classes = new ArrayList<>(List.of(face.getDeclaredClasses()));
        classes.add(face);
        for (Class<?> inside : classes) {
            for (Method method : inside.getDeclaredMethods()) {
                if (!Modifier.isPublic(method.getModifiers()) && faceNames.contains(method.getName())) {
                    doubled.add(method.toString());
                }
            }
        }
        return doubled;
    }

    private static String sorted(List<String> texts) {
        List<String> copy = new ArrayList<>(texts);
        Collections.sort(copy);
        return copy.toString();
    }
}
