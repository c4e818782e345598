import java.io.IOException;
import java.lang.reflect.Array;
import java.lang.reflect.Field;
import java.lang.reflect.Modifier;
import java.nio.file.Files;
import java.nio.file.Path;
import java.util.ArrayDeque;
import java.util.Collections;
import java.util.IdentityHashMap;
import java.util.List;
import java.util.Set;
import java.util.regex.Pattern;

/**
 * Those rules of LANGUAGE.md that a plain look at the source can find broken, and the room that a new object takes.
 * It runs from the project's root, as .ci/run does.
 */
public final class LanguageTest {
    private static final Path SOURCE = Path.of("src/main/java/SkiPasses.java");
    private static final List<String> BANNED = List.of("\\bcatch\\b", "\\bfinally\\b", "\\bassert\\b",
        "\\bsynchronized\\b", "->", "::", "\\b\\w+Exact\\(", "\\bstatic \\{",
        "\\bgetMessage\\b", "\\bSystem\\.(?!arraycopy)\\w+", "\\bwhile \\(true\\)", "\\bfor \\(;;\\)", "\\bpackage\\b",
        "import (?!java\\.util\\.(Arrays|NoSuchElementException);)", "\" \\+|\\+ \"", "[^\\x00-\\x7f]");
    private static final int CALLS = 512;
    private static final int MOST_OBJECTS = 600_000;
    private static final int MOST_ELEMENTS = 7_300_000;

    private int objects = 0;
    private int elements = 0;
    private final Set<Object> seen = Collections.newSetFromMap(new IdentityHashMap<>());

    public static void main(String[] args) throws IOException, IllegalAccessException {
        Check check = new Check("LanguageTest");
        String code = withoutComments(Files.readString(SOURCE));
        for (String banned : BANNED) {
            check.begin(banned);
            check.due(false, Pattern.compile(banned).matcher(code).find());
        }
        check.begin("room of a new object, as if each call of a run made one");
        LanguageTest room = new LanguageTest();
        room.count(new SkiPasses());
        check.due(true, room.objects * CALLS < MOST_OBJECTS);
        check.due(true, room.elements * CALLS < MOST_ELEMENTS);
        System.out.println("a new object: " + room.objects + " objects, " + room.elements + " fields and elements");
        check.end();
    }

    private static String withoutComments(String code) {
        return code.replaceAll("(?s)/\\*.*?\\*/", "").replaceAll("//[^\n]*", "");
    }

    private void count(Object root) throws IllegalAccessException {
        ArrayDeque<Object> open = new ArrayDeque<>();
        open.add(root);
        while (!open.isEmpty()) {
            Object one = open.remove();
            if (!seen.add(one)) {
                continue;
            }
            objects++;
            if (one.getClass().isArray()) {
                elements += Array.getLength(one);
                if (one instanceof Object[] row) {
                    for (Object inside : row) {
                        addTo(open, inside);
                    }
                }
                continue;
            }
            for (Field field : one.getClass().getDeclaredFields()) {
                if (!Modifier.isStatic(field.getModifiers())) {
                    elements++;
                    field.setAccessible(true);
                    addTo(open, field.getType().isPrimitive() ? null : field.get(one));
                }
            }
        }
    }

    private static void addTo(ArrayDeque<Object> open, Object one) {
        if (one != null) {
            open.add(one);
        }
    }
}
