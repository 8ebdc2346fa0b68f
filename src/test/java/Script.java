import java.lang.reflect.InvocationTargetException;
import java.lang.reflect.Method;
import java.util.HashMap;
import java.util.Map;
import java.util.Set;

/**
 * Runs written calls on a new BoreDesk. A row is one of
 *
 *   call(1, 2) = 3       it answers 3, with STATUS 0 (a call that leaves STATUS must leave it)
 *   call(1, 2) ! 6       it answers -1 with STATUS 6, and the digest is as it was
 *   15 * call(1, 2)      it is called so often, and is never refused
 *   same d               the digest is kept by a name, or must be the one that is kept by it
 *
 * and '#' begins a remark.
 */
final class Script {
    private static final Set<String> LEAVE_STATUS =
            Set.of("copied", "rows", "triangles", "ran", "digest", "status");
    /** What a refused call of these may change stands in the digest: ran() and copied(). */
    private static final Set<String> MAY_CHANGE_DIGEST = Set.of("pick", "splice");
    private static final Map<String, Method> METHODS = new HashMap<>();

    private static int wrong = 0;
    private static int rows = 0;

    static {
        for (Method method : BoreDesk.class.getDeclaredMethods()) {
            if (java.lang.reflect.Modifier.isPublic(method.getModifiers())) {
                METHODS.put(method.getName(), method);
            }
        }
    }

    private final String title;
    private final BoreDesk desk = new BoreDesk();
    private final Map<String, Long> kept = new HashMap<>();

    private Script(String title) {
        this.title = title;
    }

    static void run(String title, String text) {
        Script script = new Script(title);
        for (String line : text.split("\n")) {
            String row = line.replaceAll("#.*", "").trim();
            if (!row.isEmpty()) {
                rows++;
                script.runRow(row);
            }
        }
    }

    static void due(String what, long got, long want) {
        rows++;
        if (got != want) {
            fail(what + " answered " + got + ", due is " + want);
        }
    }

    static void fail(String what) {
        wrong++;
        if (wrong < 50) {
            System.out.println(what);
        }
    }

    static void finish() {
        System.out.println(rows + " rows, " + wrong + " wrong");
        if (wrong != 0) {
            System.exit(1);
        }
    }

    static Map<String, Method> methods() {
        return METHODS;
    }

    static long call(BoreDesk desk, Method method, Object... args) {
        try {
            return (Long) method.invoke(desk, args);
        } catch (InvocationTargetException e) {
            throw new IllegalStateException(method.getName() + " threw", e.getCause());
        } catch (IllegalAccessException e) {
            throw new IllegalStateException(e);
        }
    }

    private void runRow(String row) {
        if (row.startsWith("same ")) {
            same(row);
        } else if (Character.isDigit(row.charAt(0))) {
            repeat(row);
        } else if (row.contains("!")) {
            refused(row);
        } else {
            answered(row);
        }
    }

    private void same(String row) {
        Long before = kept.putIfAbsent(row, desk.digest());
        if (before != null && before != desk.digest()) {
            fail(title + ": " + row + ": the digest is another one");
        }
    }

    private void repeat(String row) {
        int star = row.indexOf('*');
        int many = Integer.parseInt(row.substring(0, star).trim());
        for (int k = 0; k < many; k++) {
            callText(row.substring(star + 1));
            if (desk.status() != 0) {
                fail(title + ": " + row + ": STATUS " + desk.status() + " at " + k);
                return;
            }
        }
    }

    private void refused(String row) {
        int mark = row.indexOf('!');
        String text = row.substring(0, mark);
        long want = Long.parseLong(row.substring(mark + 1).trim());
        long before = desk.digest();
        long got = callText(text);
        if (got != -1 || desk.status() != want) {
            fail(title + ": " + text + "answered " + got + " with STATUS " + desk.status() + ", due is STATUS " + want);
        }
        if (!MAY_CHANGE_DIGEST.contains(nameOf(text)) && before != desk.digest()) {
            fail(title + ": " + text + "was refused and changed the digest");
        }
    }

    private void answered(String row) {
        int mark = row.lastIndexOf('=');
        String text = row.substring(0, mark);
        long want = Long.parseLong(row.substring(mark + 1).trim());
        long statusBefore = desk.status();
        long got = callText(text);
        long statusDue = LEAVE_STATUS.contains(nameOf(text)) ? statusBefore : 0;
        if (got != want) {
            fail(title + ": " + text + "answered " + got + ", due is " + want);
        }
        if (desk.status() != statusDue) {
            fail(title + ": " + text + "has STATUS " + desk.status() + ", due is " + statusDue);
        }
    }

    private static String nameOf(String text) {
        return text.substring(0, text.indexOf('(')).trim();
    }

    private long callText(String text) {
        Method method = METHODS.get(nameOf(text));
        String inside = text.substring(text.indexOf('(') + 1, text.lastIndexOf(')')).trim();
        String[] words = inside.isEmpty() ? new String[0] : inside.split(",");
        Object[] args = new Object[words.length];
        for (int k = 0; k < words.length; k++) {
            String word = words[k].trim();
            boolean isBoolean = method.getParameterTypes()[k] == boolean.class;
            args[k] = isBoolean ? (Object) Boolean.valueOf(word) : (Object) Integer.valueOf(word);
        }
        return call(desk, method, args);
    }
}
