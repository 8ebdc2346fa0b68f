import java.lang.reflect.InvocationTargetException;
import java.lang.reflect.Method;
import java.util.HashMap;
import java.util.Map;
import java.util.Set;
import java.util.regex.Matcher;
import java.util.regex.Pattern;

/**
 * Runs written calls on a new BoreDesk. A row is one of
 *
 *   call(1, 2) = 3       it answers 3, with STATUS 0 (a call that leaves STATUS must leave it)
 *   call(1, 2) ! 6       it answers -1 with STATUS 6, and the digest is as it was
 *   15 * call(1, 2)      it is called so often, and is never refused
 *   k from 0 to 9: row   the row, once with each of these numbers for k, and what k+1, k-3 are for these
 *   same d               the digest is kept by a name, or must be the one that is kept by it
 *   not d                the digest must not be the one that is kept by this name
 *   same state d         likewise of the digest without ran() and copied(), which undo() leaves; and not state d
 *   digest of 1, 2 | 3   the digest is that of these numbers, one behind the other
 *
 * and '#' begins a remark. As digest() and status() are asked beside each row, a desk may get more than its 512
 * calls here: this one goes on alike then, but for an undo() of what lies 512 changes back.
 */
final class Script {
    private static final Set<String> LEAVE_STATUS =
            Set.of("copied", "rows", "triangles", "ran", "digest", "status");
    private static final Pattern LOOP = Pattern.compile("k from (-?\\d+) to (-?\\d+): (.*)");
    private static final Pattern COUNTER = Pattern.compile("\\bk([+-]\\d+)?\\b");
    private static final Pattern NUMBER = Pattern.compile("-?\\d+");
    private static final Map<String, Method> METHODS = new HashMap<>();

    private static int wrong = 0;
    private static int rows = 0;

    static {
        for (Method method : BoreDesk.class.getDeclaredMethods()) {
            if (java.lang.reflect.Modifier.isPublic(method.getModifiers())) {
                METHODS.put(method.getName(), method);
            }
        }
    }

    private final String title;
    private final BoreDesk desk = new BoreDesk();
    private final Map<String, Long> kept = new HashMap<>();

    private Script(String title) {
        this.title = title;
    }

    static void run(String title, String text) {
        Script script = new Script(title);
        for (String line : text.split("\n")) {
            String row = line.replaceAll("#.*", "").trim();
            if (!row.isEmpty()) {
                script.runRow(row);
            }
        }
    }

    static void due(String what, long got, long want) {
        rows++;
        if (got != want) {
            fail(what + " answered " + got + ", due is " + want);
        }
    }

    static void fail(String what) {
        wrong++;
        if (wrong < 50) {
            System.out.println(what);
        }
    }

    static void finish() {
        System.out.println(rows + " rows, " + wrong + " wrong");
        if (wrong != 0) {
            System.exit(1);
        }
    }

    static Map<String, Method> methods() {
        return METHODS;
    }

    static long call(BoreDesk desk, Method method, Object... args) {
        try {
            return (Long) method.invoke(desk, args);
        } catch (InvocationTargetException e) {
            throw new IllegalStateException(method.getName() + " threw", e.getCause());
        } catch (IllegalAccessException e) {
            throw new IllegalStateException(e);
        }
    }

    private void runRow(String row) {
        rows++;
        Matcher loop = LOOP.matcher(row);
        if (loop.matches()) {
            for (int k = Integer.parseInt(loop.group(1)); k <= Integer.parseInt(loop.group(2)); k++) {
                runRow(withCounter(loop.group(3), k));
            }
        } else if (row.startsWith("same ") || row.startsWith("not ")) {
            compare(row);
        } else if (row.startsWith("digest of")) {
            digestOf(row);
        } else if (Character.isDigit(row.charAt(0))) {
            repeat(row);
        } else if (row.contains("!")) {
            refused(row);
        } else {
            answered(row);
        }
    }

    private static String withCounter(String row, int k) {
        return COUNTER.matcher(row).replaceAll(found -> {
            int more = found.group(1) == null ? 0 : Integer.parseInt(found.group(1));
            return String.valueOf(k + more);
        });
    }

    private void compare(String row) {
        String name = row.substring(row.indexOf(' ') + 1);
        long now = name.startsWith("state ") ? stateOf(desk) : desk.digest();
        boolean same = kept.computeIfAbsent(name, unused -> now) == now;
        if (same != row.startsWith("same ")) {
            fail(title + ": " + row + ": the digest is " + (same ? "the same" : "another one"));
        }
    }

    private void digestOf(String row) {
        long d = 11;
        Matcher number = NUMBER.matcher(row);
        while (number.find()) {
            d = d * 31 + Long.parseLong(number.group());
        }
        if (desk.digest() != d) {
            fail(title + ": the digest is not the " + row);
        }
    }

    /** The digest without ran() and copied(), the last six numbers that it goes over. */
    static long stateOf(BoreDesk desk) {
        long tail = 0;
        for (int kind = 0; kind < 5; kind++) {
            tail = tail * 31 + desk.ran(kind);
        }
        return desk.digest() - (tail * 31 + desk.copied());
    }

    private void repeat(String row) {
        int star = row.indexOf('*');
        int many = Integer.parseInt(row.substring(0, star).trim());
        for (int k = 0; k < many; k++) {
            callText(row.substring(star + 1));
            if (desk.status() != 0) {
                fail(title + ": " + row + ": STATUS " + desk.status() + " at " + k);
                return;
            }
        }
    }

    private void refused(String row) {
        int mark = row.indexOf('!');
        String text = row.substring(0, mark);
        long want = Long.parseLong(row.substring(mark + 1).trim());
        long before = stateOf(desk);
        long got = callText(text);
        if (got != -1 || desk.status() != want) {
            fail(title + ": " + text + "answered " + got + " with STATUS " + desk.status() + ", due is STATUS " + want);
        }
        boolean stopped = nameOf(text).equals("splice") && desk.copied() > 0;
        if (!stopped && before != stateOf(desk)) {
            fail(title + ": " + text + "was refused and changed the digest");
        }
    }

    private void answered(String row) {
        int mark = row.lastIndexOf('=');
        String text = row.substring(0, mark);
        long want = Long.parseLong(row.substring(mark + 1).trim());
        long statusBefore = desk.status();
        long got = callText(text);
        long statusDue = LEAVE_STATUS.contains(nameOf(text)) ? statusBefore : 0;
        if (got != want) {
            fail(title + ": " + text + "answered " + got + ", due is " + want);
        }
        if (desk.status() != statusDue) {
            fail(title + ": " + text + "has STATUS " + desk.status() + ", due is " + statusDue);
        }
    }

    private static String nameOf(String text) {
        return text.substring(0, text.indexOf('(')).trim();
    }

    private long callText(String text) {
        return call(desk, text);
    }

    static long call(BoreDesk desk, String text) {
        Method method = METHODS.get(nameOf(text));
        String inside = text.substring(text.indexOf('(') + 1, text.lastIndexOf(')')).trim();
        String[] words = inside.isEmpty() ? new String[0] : inside.split(",");
        Object[] args = new Object[words.length];
        for (int k = 0; k < words.length; k++) {
            String word = words[k].trim();
            boolean isBoolean = method.getParameterTypes()[k] == boolean.class;
            args[k] = isBoolean ? (Object) Boolean.valueOf(word) : (Object) Integer.decode(word);
        }
        return call(desk, method, args);
    }
}
