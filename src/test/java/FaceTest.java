import java.io.IOException;
import java.lang.reflect.Constructor;
import java.lang.reflect.Field;
import java.lang.reflect.Method;
import java.lang.reflect.Modifier;
import java.lang.reflect.Parameter;
import java.nio.file.Files;
import java.nio.file.Path;
import java.util.ArrayList;
import java.util.Collections;
import java.util.List;

/**
 * The public face: each member is declared as the code block of the document declares it, its throws clause
 * too, and there is no other. The class must be compiled with -parameters, as .ci/run does.
 */
final class FaceTest {
    private static final String DOCUMENT = "../shared/DOC.md";

    public static void main(String[] args) throws IOException, IllegalAccessException {
        Class<?> face = Claimclub.class;
        List<String> asked = declarationsOf(DOCUMENT);
        Check.same("the document's members, its class with them", 1 + 9 + 1 + 26, asked.size());

        List<String> found = new ArrayList<>();
        found.add(Modifier.toString(face.getModifiers()) + " class " + face.getName());
        addFields(face, found);
        addConstructors(face, found);
        addMethods(face, found);
        sameMembers(asked, found);
        Check.same("no private method bears the name of a public one", "[]", sorted(doubledNames(face)));
        Check.end("FaceTest");
    }

    /** A row for each member that differs, so that a clause that is wanting is told by its method. */
    private static void sameMembers(List<String> asked, List<String> found) {
        for (String member : asked) {
            Check.same("the class declares: " + member, true, found.contains(member));
        }
        for (String member : found) {
            Check.same("the document declares: " + member, true, asked.contains(member));
        }
        Check.same("all members, each once", sorted(asked), sorted(found));
    }

    /** What stands in the document's first block of Java, a text for each member, without the signs at its end. */
    private static List<String> declarationsOf(String document) throws IOException {
        List<String> declarations = new ArrayList<>();
        boolean isInBlock = false;
        for (String line : Files.readAllLines(Path.of(document))) {
            if (line.startsWith("```")) {
                if (isInBlock) {
                    return declarations;
                }
                isInBlock = line.equals("```java");
            } else if (isInBlock && line.strip().startsWith("public ")) {
                addDeclared(line.strip().replaceAll(" *[;{]$", ""), declarations);
            }
        }
        return declarations;
    }

    /** A line with several constants, 'int A = 0, B = 1', counts as one for each of them. */
    private static void addDeclared(String line, List<String> declarations) {
        String constant = "public static final int ";
        if (!line.startsWith(constant)) {
            declarations.add(line);
            return;
        }
        for (String named : line.substring(constant.length()).split(", ")) {
            declarations.add(constant + named);
        }
    }

    private static void addFields(Class<?> face, List<String> found) throws IllegalAccessException {
        for (Field field : face.getDeclaredFields()) {
            if (!Modifier.isPrivate(field.getModifiers()) && !field.isSynthetic()) {
                boolean isNumber = Modifier.isStatic(field.getModifiers()) && field.getType() == int.class;
                found.add(Modifier.toString(field.getModifiers()) + " " + field.getType().getSimpleName() + " "
                    + field.getName() + (isNumber ? " = " + field.getInt(null) : ""));
            }
        }
    }

    private static void addConstructors(Class<?> face, List<String> found) {
        for (Constructor<?> constructor : face.getDeclaredConstructors()) {
            found.add(Modifier.toString(constructor.getModifiers()) + " " + constructor.getName()
                + parametersOf(constructor.getParameters()) + clauseOf(constructor.getExceptionTypes()));
        }
    }

    private static void addMethods(Class<?> face, List<String> found) {
        for (Method method : face.getDeclaredMethods()) {
            if (!Modifier.isPrivate(method.getModifiers()) && !method.isSynthetic()) {
                found.add(Modifier.toString(method.getModifiers()) + " " + method.getReturnType().getSimpleName()
                    + " " + method.getName() + parametersOf(method.getParameters())
                    + clauseOf(method.getExceptionTypes()));
            }
        }
    }

    private static String parametersOf(Parameter[] parameters) {
        List<String> texts = new ArrayList<>();
        for (Parameter parameter : parameters) {
            texts.add(parameter.getType().getSimpleName() + " " + parameter.getName());
        }
        return "(" + String.join(", ", texts) + ")";
    }

    /** The exceptions in the order in which they are declared: the document gives it a meaning. */
    private static String clauseOf(Class<?>[] exceptions) {
        List<String> names = new ArrayList<>();
        for (Class<?> exception : exceptions) {
            names.add(exception.getSimpleName());
        }
        return names.isEmpty() ? "" : " throws " + String.join(", ", names);
    }

    private static List<String> doubledNames(Class<?> face) {
        List<String> faceNames = new ArrayList<>();
        for (Method method : face.getDeclaredMethods()) {
            if (Modifier.isPublic(method.getModifiers())) {
                faceNames.add(method.getName());
            }
        }
        List<String> doubled = new ArrayList<>();
        List<Class<?>> classes = new ArrayList<>(List.of(face.getDeclaredClasses()));
        classes.add(face);
        for (Class<?> inside : classes) {
            for (Method method : inside.getDeclaredMethods()) {
                if (!Modifier.isPublic(method.getModifiers()) && faceNames.contains(method.getName())) {
                    doubled.add(method.toString());
                }
            }
        }
        return doubled;
    }

    private static String sorted(List<String> texts) {
        List<String> copy = new ArrayList<>(texts);
        Collections.sort(copy);
        return copy.toString();
    }
}
