import java.io.IOException;
import java.lang.management.ManagementFactory;
import java.lang.reflect.Array;
import java.lang.reflect.Constructor;
import java.lang.reflect.Field;
import java.lang.reflect.Method;
import java.lang.reflect.Modifier;
import java.nio.file.Files;
import java.nio.file.Path;
import java.util.ArrayDeque;
import java.util.Arrays;
import java.util.HashSet;
import java.util.IdentityHashMap;
import java.util.Map;
import java.util.Set;
import java.util.regex.Matcher;
import java.util.regex.Pattern;

/** The face, LANGUAGE.md as far as a machine sees it, and the room that a run takes. */
final class LanguageTest {

    public static void main(String[] args) throws IOException {
        face();
        faceAsTold();
        sections();
        membersInside();
        source();
        callDepths();
        roomOfAnObject();
        roomOfCalls();
        Kit.end("LanguageTest");
    }

    private static void face() {
        Class<?> c = OddTouch.class;
        Kit.due("public and final", Modifier.isPublic(c.getModifiers())
            && Modifier.isFinal(c.getModifiers()), true);
        for (Method m : c.getDeclaredMethods()) {
            boolean isPublic = Modifier.isPublic(m.getModifiers());
            Kit.due(m + " is public or private", isPublic || Modifier.isPrivate(m.getModifiers()), true);
            Kit.due(m + " is static", isPublic && Modifier.isStatic(m.getModifiers()), false);
        }
        for (Field f : c.getDeclaredFields()) {
            boolean isNone = f.getName().equals("NONE");
            Kit.due(f + " is private", Modifier.isPrivate(f.getModifiers()), !isNone);
        }
        Constructor<?>[] all = c.getDeclaredConstructors();
        Kit.due("one constructor", all.length, 1);
        Kit.due("without arguments", all[0].getParameterCount(), 0);
    }

    /** Each member that the document shows, its throws too, in its order; and no other one. */
    private static void faceAsTold() throws IOException {
        String document = Files.readString(Path.of("../shared/DOC.md"));
        int begin = document.indexOf("```java") + 7;
        String shown = document.substring(begin, document.indexOf("```", begin));
        String code = Files.readString(Path.of("src/main/java/OddTouch.java")).replaceAll("\\s+", " ");
        int at = 0;
        int members = 0;
        for (String line : shown.split("\n")) {
            String member = line.trim();
            if (!member.isEmpty() && !member.equals("}")) {
                String due = member.replaceAll("\\);$", ") {").replaceAll("(throws .*);$", "$1 {");
                int found = code.indexOf(due, at);
                Kit.due("stands behind the one ahead of it: " + due, found >= 0, true);
                at = Math.max(at, found);
                members += member.startsWith("public ") ? 1 : 0;
            }
        }
        Matcher open = Pattern.compile("\\bpublic\\b").matcher(code);
        int opened = 0;
        while (open.find()) {
            opened++;
        }
        Kit.due("so many are public", opened, members);
    }

    /** "Ahead of the calls .. the interface says: ---- ..". */
    private static void sections() throws IOException {
        String document = Files.readString(Path.of("../shared/DOC.md"));
        String code = Files.readString(Path.of("src/main/java/OddTouch.java"));
        Matcher told = Pattern.compile("Ahead of the calls (.*) the interface says: (---- .*)\\.").matcher(document);
        int sections = 0;
        while (told.find()) {
            sections++;
            int head = code.indexOf("    // " + told.group(2) + "\n");
            Kit.due("there is a part " + told.group(2), head >= 0, true);
            int next = code.indexOf("    // ----", head + 1);
            Matcher name = Pattern.compile("`(\\w+)`").matcher(told.group(1));
            while (name.find()) {
                int call = Pattern.compile("    public \\w+ " + name.group(1) + "\\(").matcher(code)
                    .results().findFirst().map(r -> r.start()).orElse(-1);
                Kit.due(name.group(1) + " is in " + told.group(2), call > head && (next < 0 || call < next), true);
            }
        }
        Kit.due("parts of the face", sections, 9);
    }

    private static void membersInside() {
        Set<String> names = new HashSet<>();
        for (Method m : OddTouch.class.getDeclaredMethods()) {
            if (Modifier.isPublic(m.getModifiers())) {
                names.add(m.getName());
            }
        }
        for (Method m : OddTouch.class.getDeclaredMethods()) {
            boolean isPrivate = Modifier.isPrivate(m.getModifiers());
            Kit.due(m + " bears no public name", isPrivate && names.contains(m.getName()), false);
            Kit.due(m + " takes seven at most", m.getParameterCount() <= 7, true);
        }
        Class<?>[] inside = OddTouch.class.getDeclaredClasses();
        Kit.due("some twelve classes", inside.length <= 12, true);
        for (Class<?> c : inside) {
            Kit.due(c + " is static", Modifier.isStatic(c.getModifiers()), true);
            int fields = 0;
            for (Field f : c.getDeclaredFields()) {
                boolean isStatic = Modifier.isStatic(f.getModifiers());
                fields += isStatic ? 0 : 1;
                Kit.due(f + " is final if static", !isStatic || Modifier.isFinal(f.getModifiers()), true);
            }
            Kit.due(c + " has some twenty fields", fields <= 20, true);
            for (Method m : c.getDeclaredMethods()) {
                Kit.due(m + " has a name of its own", names.contains(m.getName()), false);
                Kit.due(m + " takes seven at most", m.getParameterCount() <= 7, true);
            }
        }
    }

    private static void source() throws IOException {
        String text = Files.readString(Path.of("src/main/java/OddTouch.java"));
        String code = text.replaceAll("(?s)/\\*.*?\\*/", "").replaceAll("//[^\n]*", "")
            .replaceAll("\"[^\"\n]*\"", "\"\"");
        String[] barred = {"->", "::", "\\btry\\b", "\\bcatch\\b", "\\bfinally\\b", "\\bassert\\b",
            "\\bsynchronized\\b", "Exact\\(", "\\bSystem\\.(?!arraycopy)", "\\bThread\\b",
            "\\bRandom\\b", "\\bpackage\\b", "\\bstatic\\s*\\{", "getMessage", "\\bdouble\\b",
            "\\bfloat\\b", "\\bvar\\b", "\\.toString\\(", "\\.hashCode\\(", "\\.equals\\("};
        for (String b : barred) {
            Kit.due("no " + b, Pattern.compile(b).matcher(code).find(), false);
        }
        Matcher library = Pattern.compile("\\b(Integer|Long|Math|Arrays|System|String|List)\\.\\w+").matcher(code);
        while (library.find()) {
            Kit.due(library.group(), library.group().matches("Integer\\.(bitCount|numberOfTrailingZeros)"
                + "|Math\\.(min|max|floorMod)|System\\.arraycopy"), true);
        }
        Kit.due("no rows of rows", code.contains("[][]"), false);
        Matcher imports = Pattern.compile("import ([\\w.]+);").matcher(code);
        while (imports.find()) {
            Kit.due("imports", imports.group(1), "java.util.NoSuchElementException");
        }
        Matcher throwing = Pattern.compile("throw ([^;]*);").matcher(code);
        while (throwing.find()) {
            Kit.due(throwing.group(), throwing.group(1).matches("new (IllegalState|IllegalArgument"
                + "|IndexOutOfBounds|NoSuchElement)Exception\\(\"\"\\)"), true);
        }
        Kit.due("small signs alone", text.chars().allMatch(s -> s == 10 || s >= 32 && s < 127), true);
        methodLengths(text);
    }

    /** A method begins and ends at its own indentation. */
    private static void methodLengths(String text) {
        Pattern begin = Pattern.compile("^( {4}| {8})(?! )[^/*@}=]*\\)[^;=]*\\{$|^( {4}| {8})(?! )public .*\\)$");
        String[] lines = text.split("\n");
        int methods = 0;
        for (int i = 0; i < lines.length; i++) {
            if (begin.matcher(lines[i]).find()) {
                String indent = lines[i].startsWith("        ") ? "        }" : "    }";
                int end = i;
                while (!lines[end].equals(indent)) {
                    end++;
                }
                methods++;
                Kit.due("short: " + lines[i].trim(), end - i < 60, true);
            }
        }
        Kit.due("methods were found", methods > 100, true);
    }

    /** Calls of own methods, by names in the text: those that are no recursion go eight deep. */
    private static void callDepths() throws IOException {
        String text = Files.readString(Path.of("src/main/java/OddTouch.java"));
        Map<String, Set<String>> calls = new java.util.HashMap<>();
        Pattern head = Pattern.compile("^( {4}| {8})(?! )(?:[\\w\\[\\]]+ )+(\\w+)\\(.*$");
        String[] lines = text.split("\n");
        for (int i = 0; i < lines.length; i++) {
            Matcher m = head.matcher(lines[i]);
            if (m.find() && !lines[i].trim().endsWith(";") && !lines[i].contains(" new ")) {
                StringBuilder body = new StringBuilder();
                String end = m.group(1) + "}";
                for (int k = i + 1; !lines[k].equals(end); k++) {
                    body.append(lines[k]).append('\n');
                }
                calls.computeIfAbsent(m.group(2), n -> new HashSet<>());
                Matcher inner = Pattern.compile("(\\w+)\\(").matcher(body);
                while (inner.find()) {
                    calls.get(m.group(2)).add(inner.group(1));
                }
            }
        }
        calls.values().forEach(c -> c.retainAll(calls.keySet()));
        for (String name : calls.keySet()) {
            Kit.due("at most eight deep: " + name, depth(name, calls, new HashSet<>()) <= 8, true);
        }
    }

    private static boolean recurs(String name, Map<String, Set<String>> calls) {
        Set<String> reached = new HashSet<>();
        ArrayDeque<String> todo = new ArrayDeque<>(calls.get(name));
        while (!todo.isEmpty()) {
            String next = todo.pop();
            if (reached.add(next)) {
                todo.addAll(calls.get(next));
            }
        }
        return reached.contains(name);
    }

    private static int depth(String name, Map<String, Set<String>> calls, Set<String> open) {
        if (!open.add(name)) {
            return 0;
        }
        int deepest = 0;
        for (String next : calls.get(name)) {
            deepest = Math.max(deepest, depth(next, calls, open));
        }
        open.remove(name);
        return deepest + (recurs(name, calls) ? 0 : 1);
    }

    private static void roomOfAnObject() {
        IdentityHashMap<Object, Boolean> seen = new IdentityHashMap<>();
        ArrayDeque<Object> todo = new ArrayDeque<>();
        todo.add(new OddTouch());
        long parts = 0;
        while (!todo.isEmpty()) {
            Object o = todo.pop();
            if (seen.put(o, true) != null) {
                continue;
            }
            if (o.getClass().isArray()) {
                parts += Array.getLength(o);
                if (o instanceof Object[]) {
                    todo.addAll(Arrays.asList((Object[]) o));
                }
                continue;
            }
            for (Field f : o.getClass().getDeclaredFields()) {
                if (!Modifier.isStatic(f.getModifiers())) {
                    parts++;
                    f.setAccessible(true);
                    try {
                        if (!f.getType().isPrimitive()) {
                            todo.add(f.get(o));
                        }
                    } catch (IllegalAccessException e) {
                        throw new IllegalStateException(e);
                    }
                }
            }
        }
        System.out.println("an object: " + seen.size() + " objects and arrays, " + parts
            + " fields and elements");
        Kit.due("few objects", seen.size() < 300, true);
        Kit.due("few fields and elements", parts < 20000, true);
    }

    private static void roomOfCalls() {
        OddTouch x = new OddTouch();
        String town = "places 10;touch 0 1;touch 1 2 wall;touch 2 3;touch 3 4;touch 4 0;touch 0 5;touch 5 6;touch 6 7;"
            + "touch 7 8;touch 8 9;thing 0 count 1;thing 1 count 3;thing 2 count 2;thing 3 count 5;thing 4 count 7;"
            + "event 5 thing 0 more 1;event 6 thing 1 less 1;law odda+oddb<2 or wall=1;";
        com.sun.management.ThreadMXBean bean =
            (com.sun.management.ThreadMXBean) ManagementFactory.getThreadMXBean();
        long me = Thread.currentThread().getId();
        everyCall(x, town);
        long before = bean.getThreadAllocatedBytes(me);
        for (int i = 0; i < 20; i++) {
            everyCall(x, town);
        }
        long made = bean.getThreadAllocatedBytes(me) - before;
        System.out.println("twenty times all calls: " + made + " bytes made");
        // What the test itself makes for feeding is some 10,000 bytes.
        Kit.due("calls make no objects", made < 100000, true);
    }

    private static void everyCall(OddTouch x, String town) {
        Kit.tell(x, town);
        for (int i = 0; i < 4; i++) {
            x.tray(i, i, 3);
            x.write(i, 1, 1);
            x.write(i, 2, 2);
        }
        x.goats(0, true);
        x.seats(0, 5, 0);
        x.seen(0);
        x.sure(0, 1);
        x.judge(0, 3);
        x.perform(0);
        x.pour(3);
        x.bestRow(31, true, 0);
        x.placings();
        x.placing(3, 1);
        x.mending(0);
        x.mend();
        x.flips(0);
        x.wave(0);
        x.goWave();
        x.calm(0);
        x.atRest();
        x.drift();
        x.pleasure(0, x.thing(0, 0));
        x.oddRing(0);
        x.sides();
        x.steps(0, 3);
        x.clash(0, 1, true);
        x.firstClash();
        x.image(0);
        x.days(9);
        x.season(5, 30);
        x.change(0, 1);
        x.move(0, 9);
        x.undo(1);
        x.restore(0);
    }
}
