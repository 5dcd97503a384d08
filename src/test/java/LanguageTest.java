import java.io.IOException;
import java.lang.reflect.Array;
import java.lang.reflect.Constructor;
import java.lang.reflect.Executable;
import java.lang.reflect.Field;
import java.lang.reflect.Method;
import java.lang.reflect.Modifier;
import java.nio.file.Files;
import java.nio.file.Path;
import java.util.ArrayList;
import java.util.IdentityHashMap;
import java.util.List;
import java.util.Map;
import java.util.Set;
import java.util.TreeSet;

/** Some rules of LANGUAGE.md, as far as reflection shows them, and the room an object takes. */
final class LanguageTest {
    private static final Check CHECK = new Check();
    private static final Path SOURCE = Path.of("src/main/java/SortedRun.java");
    private static final Set<Class<?>> CONSTANTS = Set.of(int.class, long.class, boolean.class,
            char.class, String.class, int[].class, long[].class, char[].class, byte[].class);

    public static void main(String[] args) throws IOException {
        List<Class<?>> classes = new ArrayList<>(List.of(SortedRun.class.getDeclaredClasses()));
        for (Class<?> inner : classes) {
            int modifiers = inner.getModifiers();
            CHECK.holds("rule 1: static, not public: " + inner, Modifier.isStatic(modifiers)
                    && !Modifier.isPublic(modifiers) && !Modifier.isProtected(modifiers));
        }
        classes.add(SortedRun.class);
        CHECK.holds("rule 11: classes", classes.size() <= 12);
        namesAreNotShared();
        for (Class<?> each : classes) {
            fields(each);
            parameters(each);
        }
        source();
        room();
        CHECK.end();
    }

    private static void namesAreNotShared() {
        Set<String> publicNames = new TreeSet<>();
        for (Method method : SortedRun.class.getMethods()) {
            publicNames.add(method.getName());
        }
        for (Method method : SortedRun.class.getDeclaredMethods()) {
            CHECK.holds("rule 1: no public one's name: " + method,
                    Modifier.isPublic(method.getModifiers())
                            || !publicNames.contains(method.getName()));
        }
    }

    private static void fields(Class<?> each) {
        int held = 0;
        for (Field field : each.getDeclaredFields()) {
            if (Modifier.isStatic(field.getModifiers())) {
                CHECK.holds("rule 5: a constant: " + field, Modifier.isFinal(field.getModifiers())
                        && CONSTANTS.contains(field.getType()));
            } else {
                held++;
            }
        }
        CHECK.holds("rule 11: fields of " + each, held <= 20);
    }

    private static void parameters(Class<?> each) {
        List<Executable> all = new ArrayList<>(List.of(each.getDeclaredMethods()));
        for (Constructor<?> constructor : each.getDeclaredConstructors()) {
            all.add(constructor);
        }
        for (Executable one : all) {
            CHECK.holds("rule 11: parameters of " + one, one.getParameterCount() <= 7);
        }
    }

    private static void source() throws IOException {
        for (String line : Files.readAllLines(SOURCE)) {
            CHECK.holds("no package: " + line, !line.startsWith("package "));
            CHECK.holds("rule 4: no other library: " + line, !line.startsWith("import ")
                    || line.equals("import java.util.NoSuchElementException;"));
            CHECK.holds("rule 6: a written text: " + line, !line.contains("throw ")
                    || line.strip().matches("throw new \\w+\\(\"[^\"]*\"\\);"));
        }
    }

    /** What an object keeps is made with it: calls add nothing, however many there are. */
    private static void room() {
        SortedRun run = new SortedRun();
        long[] before = held(run);
        // A small part of the 600,000 objects and 7,300,000 elements for which a run has room.
        CHECK.holds("objects: " + before[0], before[0] <= 600);
        CHECK.holds("fields and elements: " + before[1], before[1] <= 14_000);
        for (int key = 0; key < 300; key++) {
            run.add(key, Long.MIN_VALUE + key);
        }
        run.write();
        run.open();
        for (int key = 0; key < 200; key++) {
            run.get(key);
        }
        CHECK.answers("objects after 502 calls", before[0], () -> held(run)[0]);
        CHECK.answers("elements after 502 calls", before[1], () -> held(run)[1]);
    }

    /** How many objects and arrays it holds, and how many fields and elements these have. */
    private static long[] held(Object root) {
        Map<Object, Boolean> seen = new IdentityHashMap<>();
        List<Object> all = new ArrayList<>(List.of(root));
        seen.put(root, true);
        long elements = 0;
        for (int i = 0; i < all.size(); i++) {
            Object one = all.get(i);
            if (one.getClass().isArray()) {
                elements += Array.getLength(one);
                continue;
            }
            for (Field field : one.getClass().getDeclaredFields()) {
                if (!Modifier.isStatic(field.getModifiers())) {
                    elements++;
                    Object next = field.getType().isPrimitive() ? null : valueOf(field, one);
                    if (next != null && seen.put(next, true) == null) {
                        all.add(next);
                    }
                }
            }
        }
        return new long[] {all.size(), elements};
    }

    private static Object valueOf(Field field, Object owner) {
        try {
            field.setAccessible(true);
            return field.get(owner);
        } catch (IllegalAccessException e) {
            throw new IllegalStateException(e);
        }
    }
}
