import java.io.IOException;
import java.lang.reflect.Array;
import java.lang.reflect.Constructor;
import java.lang.reflect.Executable;
import java.lang.reflect.Field;
import java.lang.reflect.Method;
import java.lang.reflect.Modifier;
import java.nio.file.Files;
import java.nio.file.Path;
import java.util.ArrayList;
import java.util.Arrays;
import java.util.IdentityHashMap;
import java.util.List;
import java.util.Map;
import java.util.Set;
import java.util.TreeSet;
import java.util.regex.Matcher;
import java.util.regex.Pattern;

/** The public face, some rules of the language that a test can see, and the room that is used. */
public final class LanguageTest {
    private static final Set<String> FACE = new TreeSet<>(Set.of(
        "new int int", "unit int int : IllegalStateException IllegalArgumentException",
        "template : IllegalStateException", "entry int : IndexOutOfBoundsException IllegalStateException",
        "field int int : IndexOutOfBoundsException IllegalArgumentException",
        "claim int int int : IndexOutOfBoundsException IllegalArgumentException",
        "picture int int : IndexOutOfBoundsException IllegalArgumentException",
        "order : IllegalArgumentException", "run", "about int : IndexOutOfBoundsException IllegalStateException",
        "page int : IndexOutOfBoundsException IllegalStateException",
        "line int int int : IndexOutOfBoundsException IllegalStateException",
        "sign int int int : IndexOutOfBoundsException IllegalStateException",
        "index int int : IndexOutOfBoundsException", "count int : IndexOutOfBoundsException", "NONE"));

    // 512 objects in one room of 600,000 objects and 7.3 million elements.
    private static final int OBJECTS_MOST = 600_000 / 512;
    private static final int ELEMENTS_MOST = 7_300_000 / 512;

    private static final Checks checks = new Checks("LanguageTest");

    public static void main(String[] args) throws IOException, IllegalAccessException {
        faceIsTheDocuments();
        privateNamesAreOther();
        sourceKeepsToTheLanguage();
        libraryIsTheListed();
        newPartsAreHeldOnce();
        roomIsSmall();
        checks.end();
    }

    private static String told(String name, Executable made) {
        StringBuilder text = new StringBuilder(name);
        for (Class<?> type : made.getParameterTypes()) {
            text.append(" ").append(type.getSimpleName());
        }
        text.append(made.getExceptionTypes().length == 0 ? "" : " :");
        for (Class<?> type : made.getExceptionTypes()) {
            text.append(" ").append(type.getSimpleName());
        }
        return text.toString();
    }

    private static void faceIsTheDocuments() {
        Set<String> seen = new TreeSet<>();
        for (Constructor<?> made : CatalogueSet.class.getDeclaredConstructors()) {
            seen.add(told("new", made));
        }
        for (Method method : CatalogueSet.class.getDeclaredMethods()) {
            if (!Modifier.isPrivate(method.getModifiers())) {
                seen.add(told(method.getName(), method));
                checks.due("what " + method.getName() + " answers", int.class, method.getReturnType());
                checks.due("whether " + method.getName() + " is public", true,
                    Modifier.isPublic(method.getModifiers()));
            }
        }
        for (Field field : CatalogueSet.class.getDeclaredFields()) {
            if (!Modifier.isPrivate(field.getModifiers())) {
                seen.add(field.getName());
            }
        }
        checks.due("the face", FACE, seen);
        checks.due("whether the class is final", true, Modifier.isFinal(CatalogueSet.class.getModifiers()));
        for (Class<?> inside : CatalogueSet.class.getDeclaredClasses()) {
            checks.due("whether " + inside + " is static", true, Modifier.isStatic(inside.getModifiers()));
        }
        checks.due("whether there are few classes", true, CatalogueSet.class.getDeclaredClasses().length <= 11);
    }

    private static void privateNamesAreOther() {
        Set<String> open = new TreeSet<>();
        for (Method method : CatalogueSet.class.getMethods()) {
            open.add(method.getName());
        }
        for (Class<?> inside : CatalogueSet.class.getDeclaredClasses()) {
            for (Method method : inside.getDeclaredMethods()) {
                checks.due("whether " + method + " bears a public name", false, open.contains(method.getName()));
                checks.due("whether " + method + " has few parameters", true, method.getParameterCount() <= 7);
            }
        }
        for (Method method : CatalogueSet.class.getDeclaredMethods()) {
            boolean hidden = Modifier.isPrivate(method.getModifiers());
            checks.due("whether " + method + " bears a public name", false, hidden && open.contains(method.getName()));
        }
    }

    /** The source without comments and the texts of exceptions. */
    private static String bareSource() throws IOException {
        return Files.readString(Path.of("src/main/java/CatalogueSet.java"))
            .replaceAll("(?s)/\\*.*?\\*/", "").replaceAll("//[^\n]*", "").replaceAll("\"[^\"\n]*\"", "\"\"");
    }

    private static void sourceKeepsToTheLanguage() throws IOException {
        String source = bareSource();
        String[] ruledOut = {"\\btry\\b", "\\bcatch\\b", "\\bfinally\\b", "->", "::", "\\bsynchronized\\b",
            "\\bassert\\b", "\\bimport\\b", "\\bpackage\\b", "\\bSystem\\.", "\\bstatic\\s*\\{", "\\bprotected\\b",
            "\\binstanceof\\b", "Exact\\b", "\\bhashCode\\b", "\\bequals\\b", "\\btoString\\b"};
        for (String word : ruledOut) {
            checks.due("whether the source has " + word, false, Pattern.compile(word).matcher(source).find());
        }
        for (Class<?> inside : CatalogueSet.class.getDeclaredClasses()) {
            staticFieldsAreFinal(inside);
        }
        staticFieldsAreFinal(CatalogueSet.class);
    }

    /** Rules 4 and 6: what is used of a class that is not the file's own. */
    private static void libraryIsTheListed() throws IOException {
        Set<String> listed = Set.of("Math.max", "Math.min", "new IllegalStateException",
            "new IllegalArgumentException", "new IndexOutOfBoundsException");
        Set<String> own = new TreeSet<>(Set.of("CatalogueSet"));
        for (Class<?> inside : CatalogueSet.class.getDeclaredClasses()) {
            own.add(inside.getSimpleName());
        }
        Matcher used = Pattern.compile("\\b([A-Z]\\w*[a-z]\\w*)\\.\\w+|\\bnew ([A-Z]\\w*)").matcher(bareSource());
        while (used.find()) {
            String type = used.group(1) == null ? used.group(2) : used.group(1);
            checks.due("whether " + used.group() + " is in the language", true,
                own.contains(type) || listed.contains(used.group()));
        }
    }

    /** Rule 12: a constructor hands out nothing of the object that it makes. */
    private static void newPartsAreHeldOnce() throws IllegalAccessException {
        Map<Object, Integer> parts = new IdentityHashMap<>();
        gather(new CatalogueSet(6, 3), parts);
        Map<Object, Integer> holders = new IdentityHashMap<>();
        for (Object part : parts.keySet()) {
            for (Object held : heldBy(part)) {
                holders.merge(held, 1, Integer::sum);
            }
        }
        for (Map.Entry<Object, Integer> held : holders.entrySet()) {
            checks.due("holders of a " + held.getKey().getClass().getSimpleName(), 1, held.getValue());
        }
    }

    private static void staticFieldsAreFinal(Class<?> type) {
        for (Field field : type.getDeclaredFields()) {
            if (Modifier.isStatic(field.getModifiers())) {
                checks.due("whether " + field + " is final", true, Modifier.isFinal(field.getModifiers()));
            }
        }
        long own = Arrays.stream(type.getDeclaredFields()).filter(f -> !Modifier.isStatic(f.getModifiers())).count();
        checks.due("whether " + type + " has few fields", true, own <= 20);
    }

    private static void roomIsSmall() throws IllegalAccessException {
        CatalogueSet x = new CatalogueSet(6, 3);
        Map<Object, Integer> made = new IdentityHashMap<>();
        gather(x, made);
        int elements = made.values().stream().mapToInt(n -> n).sum();
        System.out.println("LanguageTest: " + made.size() + " objects, " + elements + " fields and elements");
        checks.due("whether a new one has few objects", true, made.size() <= OBJECTS_MOST);
        checks.due("whether a new one has few elements", true, elements <= ELEMENTS_MOST);
        Checks.template(x, "#0 #0 #0 #0 #0 #0");
        for (int e = 0; e < 8; e++) {
            x.entry(0);
            Checks.field(x, e, 0, "a b c d e f g h i j k l m n o p");
        }
        x.run();
        x.run();
        Map<Object, Integer> later = new IdentityHashMap<>();
        gather(x, later);
        checks.due("whether there are more objects behind some runs", false, later.size() > made.size());
    }

    /** All objects and arrays that can be reached, each with its fields or elements counted. */
    private static void gather(Object from, Map<Object, Integer> made) throws IllegalAccessException {
        if (made.containsKey(from)) {
            return;
        }
        made.put(from, from.getClass().isArray() ? Array.getLength(from) : ownFields(from).size());
        for (Object held : heldBy(from)) {
            gather(held, made);
        }
    }

    private static List<Field> ownFields(Object of) {
        return Arrays.stream(of.getClass().getDeclaredFields())
            .filter(field -> !Modifier.isStatic(field.getModifiers())).toList();
    }

    /** The objects and arrays in its fields or elements. */
    private static List<Object> heldBy(Object holder) throws IllegalAccessException {
        List<Object> held = new ArrayList<>();
        if (holder instanceof Object[] row) {
            held.addAll(Arrays.asList(row));
        } else if (!holder.getClass().isArray()) {
            for (Field field : ownFields(holder)) {
                field.setAccessible(true);
                if (!field.getType().isPrimitive()) {
                    held.add(field.get(holder));
                }
            }
        }
        held.removeIf(one -> one == null);
        return held;
    }
}
