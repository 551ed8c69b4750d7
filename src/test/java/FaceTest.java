import java.io.IOException;
import java.lang.reflect.Constructor;
import java.lang.reflect.Field;
import java.lang.reflect.Method;
import java.lang.reflect.Modifier;
import java.nio.charset.StandardCharsets;
import java.nio.file.Files;
import java.nio.file.Path;
import java.util.Set;
import java.util.TreeSet;

/** "The public face" of the document: the class has all of it, and no other member that can be seen. */
public final class FaceTest {
    private static final Path PLACE = Path.of("..", "shared", "DOC.md");
    private static final String[] FACE = {
        "public static final int NONE = -1;",
        "public TrackerHouse();",
        "public boolean feed(int, int, int, int, int);",
        "public boolean end(int);",
        "public int read(boolean);",
        "public boolean again();",
        "public int play(int) throws IllegalArgumentException, NoSuchElementException;",
        "public boolean mute(int, boolean);",
        "public int look(int);",
        "public int voice(int, int);",
        "public int instrument(int, int);",
        "public long cell(int, int) throws NoSuchElementException;",
        "public int gate(int, int);",
        "public int swell(int, int);",
        "public int frame(int);",
        "public int event(int);",
        "public int pack();",
        "public int packed(int);",
        "public boolean take();",
    };

    public static void main(String[] args) throws IOException, IllegalAccessException {
        Check.by("The public face");
        Set<String> face = new TreeSet<>(Set.of(FACE));
        compare(face, ofDocument(), "the document");
        compare(face, ofClass(), "the class");
        int kind = TrackerHouse.class.getModifiers();
        Check.due("public and final", kind, Modifier.PUBLIC | Modifier.FINAL);
        Check.due("without a package", TrackerHouse.class.getPackageName().isEmpty(), true);
        classesInside();
        noNameTwice();
        Check.finish();
    }

    private static void compare(Set<String> face, Set<String> found, String where) {
        for (String member : face) {
            Check.due("whether " + where + " has " + member, found.contains(member), true);
        }
        for (String member : found) {
            Check.due("whether " + where + " may have " + member, face.contains(member), true);
        }
    }

    /** The face as the document writes it, without the parameters' names; the face itself where there is none. */
    private static Set<String> ofDocument() throws IOException {
        if (!Files.exists(PLACE)) {
            System.out.println("no document at " + PLACE + ": its face is not compared");
            return Set.of(FACE);
        }
        Set<String> found = new TreeSet<>();
        boolean inside = false;
        for (String line : Files.readAllLines(PLACE, StandardCharsets.UTF_8)) {
            if (line.startsWith("```")) {
                inside = line.equals("```java");
            } else if (inside && line.startsWith("    ")) {
                found.add(line.strip().replaceAll("(int|boolean) \\w+(?=[,)])", "$1"));
            }
        }
        return found;
    }

    private static Set<String> ofClass() throws IllegalAccessException {
        Set<String> found = new TreeSet<>();
        for (Field field : TrackerHouse.class.getDeclaredFields()) {
            if (!Modifier.isPrivate(field.getModifiers())) {
                found.add(Modifier.toString(field.getModifiers()) + " " + field.getType().getSimpleName() + " "
                    + field.getName() + " = " + field.get(null) + ";");
            }
        }
        for (Constructor<?> constructor : TrackerHouse.class.getDeclaredConstructors()) {
            found.add(Modifier.toString(constructor.getModifiers()) + " " + constructor.getName()
                + rest(constructor.getParameterTypes(), constructor.getExceptionTypes()));
        }
        for (Method method : TrackerHouse.class.getDeclaredMethods()) {
            if (!Modifier.isPrivate(method.getModifiers())) {
                found.add(Modifier.toString(method.getModifiers()) + " " + method.getReturnType().getSimpleName() + " "
                    + method.getName() + rest(method.getParameterTypes(), method.getExceptionTypes()));
            }
        }
        return found;
    }

    private static String rest(Class<?>[] parameters, Class<?>[] exceptions) {
        return "(" + names(parameters) + ")" + (exceptions.length == 0 ? "" : " throws " + names(exceptions)) + ";";
    }

    private static String names(Class<?>[] classes) {
        StringBuilder all = new StringBuilder();
        for (Class<?> one : classes) {
            all.append(all.length() == 0 ? "" : ", ").append(one.getSimpleName());
        }
        return all.toString();
    }

    private static void classesInside() {
        for (Class<?> inside : TrackerHouse.class.getDeclaredClasses()) {
            int kind = inside.getModifiers();
            Check.due(inside.getSimpleName() + " is static", Modifier.isStatic(kind), true);
            Check.due(inside.getSimpleName() + " can be seen", Modifier.isPublic(kind) || Modifier.isProtected(kind), false);
        }
    }

    /** LANGUAGE.md, rule 1: no private method bears the name of a public one. */
    private static void noNameTwice() {
        Set<String> names = new TreeSet<>();
        for (Method method : TrackerHouse.class.getMethods()) {
            names.add(method.getName());
        }
        for (Method method : TrackerHouse.class.getDeclaredMethods()) {
            boolean hidden = Modifier.isPrivate(method.getModifiers());
            Check.due("private " + method.getName(), hidden && names.contains(method.getName()), false);
        }
        for (Class<?> inside : TrackerHouse.class.getDeclaredClasses()) {
            for (Method method : inside.getDeclaredMethods()) {
                Check.due(inside.getSimpleName() + "." + method.getName(), names.contains(method.getName()), false);
            }
        }
    }
}
