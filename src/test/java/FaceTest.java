import java.io.IOException;
import java.lang.management.ManagementFactory;
import java.lang.reflect.Executable;
import java.lang.reflect.Field;
import java.lang.reflect.Method;
import java.lang.reflect.Modifier;
import java.nio.file.Files;
import java.nio.file.Path;
import java.util.ArrayList;
import java.util.Arrays;
import java.util.List;
import java.util.TreeSet;
import java.util.regex.Matcher;
import java.util.regex.Pattern;

/** The document's public face, and those rules of LANGUAGE.md that can be read off. Run in the project's folder. */
public final class FaceTest {
    private static final String[] FACE = {"hears(int,int,int)int", "one(int,int,int,int)int",
        "rename(int,int)int", "move(int,int)int", "dead(int,int)int", "comes(int,int)int", "type(long,int)int",
        "clear()int", "read()int", "call(int,int,int)int", "whistle(int,int,int)int", "turned(int)int",
        "heardOf(int)int", "undo()int", "taken(int,int)int", "clash(int)int", "alter()int", "names(int)int",
        "bride(int)int", "thief(int,int,int)int", "whistled(int,int,int,int)int", "word(int,int,int,int)int",
        "free(int,int)int", "image(int)int", "from(int)int", "status(int)int", "count(int)int", "digest()long"};

    private static int passed = 0;
    private static int failed = 0;

    public static void main(String[] args) throws IOException {
        Class<?> program = WhistledNames.class;
        is("public and final", Modifier.isPublic(program.getModifiers()) && Modifier.isFinal(program.getModifiers()));
        checkMembers(program);
        List<Class<?>> all = new ArrayList<>(List.of(program));
        all.addAll(Arrays.asList(program.getDeclaredClasses()));
        is("at most twelve classes", all.size() <= 12);
        for (Class<?> one : all) {
            checkClass(one, program);
        }
        checkSource(Files.readString(Path.of("src/main/java/WhistledNames.java")));
        checkRoom();
        System.out.println("FaceTest: " + passed + " passed, " + failed + " failed");
        System.exit(failed == 0 ? 0 : 1);
    }

    private static void is(String what, boolean holds) {
        if (holds) {
            passed++;
        } else {
            failed++;
            System.out.println("not so: " + what);
        }
    }

    private static void checkMembers(Class<?> program) {
        TreeSet<String> methods = new TreeSet<>();
        for (Method method : program.getDeclaredMethods()) {
            if (!Modifier.isPrivate(method.getModifiers())) {
                is(method.getName() + " is public, not static",
                        Modifier.isPublic(method.getModifiers()) && !Modifier.isStatic(method.getModifiers()));
                methods.add(method.getName() + types(method) + method.getReturnType().getName());
            }
        }
        is("the document's methods and no others: " + methods, methods.equals(new TreeSet<>(Arrays.asList(FACE))));
        TreeSet<String> fields = new TreeSet<>();
        for (Field field : program.getDeclaredFields()) {
            if (!Modifier.isPrivate(field.getModifiers())) {
                fields.add(Modifier.toString(field.getModifiers()) + " " + field);
            }
        }
        is("four constants: " + fields, fields.size() == 4);
        is("one constructor", program.getConstructors().length == 1 && program.getDeclaredConstructors().length == 1
                && program.getConstructors()[0].getParameterCount() == 0);
    }

    private static String types(Method method) {
        List<String> names = new ArrayList<>();
        for (Class<?> type : method.getParameterTypes()) {
            names.add(type.getName());
        }
        return "(" + String.join(",", names) + ")";
    }

    private static void checkClass(Class<?> one, Class<?> program) {
        int fields = 0;
        for (Field field : one.getDeclaredFields()) {
            if (Modifier.isStatic(field.getModifiers())) {
                is(field + " is final", Modifier.isFinal(field.getModifiers()));
            } else {
                fields++;
            }
        }
        is(one + " has at most twenty fields", fields <= 20);
        if (one != program) {
            boolean isOpen = Modifier.isPublic(one.getModifiers()) || Modifier.isProtected(one.getModifiers());
            is(one + " is static and not open", Modifier.isStatic(one.getModifiers()) && !isOpen);
        }
        List<Executable> code = new ArrayList<>(Arrays.asList(one.getDeclaredMethods()));
        code.addAll(Arrays.asList(one.getDeclaredConstructors()));
        for (Executable method : code) {
            is(method + " takes at most seven", method.getParameterCount() <= 7);
            boolean isOfFace = Arrays.stream(FACE).anyMatch(f -> f.startsWith(method.getName() + "("));
            boolean isPublic = one == program && Modifier.isPublic(method.getModifiers());
            is(method + " has no name of the face", isPublic || !isOfFace);
        }
    }

    private static void checkSource(String source) {
        String code = source.replaceAll("(?s)/\\*.*?\\*/", "").replaceAll("//[^\n]*", "")
                .replaceAll("\"[^\"\n]*\"", "\"\"").replaceAll("(case [^:;{}]*|default\\s*)->", "");
        String[] forbidden = {"\\bthrow", "\\btry\\b", "\\bcatch\\b", "\\bsynchronized\\b", "\\bassert\\b",
            "\\bimport\\s+(?!java\\.util\\.(ArrayList|List|Arrays|Iterator)\\s*;)", "\\bpackage\\b", "->", "::",
            "Exact\\b", "\\bObject\\b", "\\bSystem\\.(?!arraycopy)", "\"\\s*\\+", "\\+\\s*\"", "\\bThread\\b",
            "@(?!Override\\b)", "\\bstatic\\s*\\{"};
        for (String sign : forbidden) {
            Matcher matcher = Pattern.compile(sign).matcher(code);
            is("no " + sign, !matcher.find());
        }
        is("signs 1 to 127 alone", source.chars().allMatch(sign -> sign > 0 && sign < 128));
        int lines = 0;
        for (String line : source.split("\n")) {
            lines = line.matches("    ( {4})?\\S.*\\{") ? 0 : lines + 1;
            boolean isEnd = line.matches("    ( {4})?\\}");
            if (isEnd) {
                is("a method of " + lines + " lines", lines <= 60);
            }
        }
    }

    /** The calls of one run share one room, so a call should make nothing: the objects are made with the first one. */
    private static void checkRoom() {
        com.sun.management.ThreadMXBean room = (com.sun.management.ThreadMXBean) ManagementFactory.getThreadMXBean();
        long thread = Thread.currentThread().getId();
        long least = Long.MAX_VALUE;
        // What the machine makes for itself, as when it loads a class, is seen in the first rounds alone.
        for (int round = 0; round < 5; round++) {
            WhistledNames x = new WhistledNames();
            long before = room.getThreadAllocatedBytes(thread);
            callAll(x);
            least = Math.min(least, room.getThreadAllocatedBytes(thread) - before);
        }
        is("calls make no objects, or few: " + least + " bytes", least < 2048);
    }

    private static void callAll(WhistledNames x) {
        for (int i = 0; i < 15; i++) {
            x.hears(i % 6, (i + 1) % 6, i % 4);
            x.one(i % 6, 16 + i, i % 6, i % 4);
            x.rename(i, 20 + i);
            x.move(i, i % 3);
            x.dead(16 + i, 6 * i);
            x.comes(100, i % 4);
            x.type('a' + i, 1 + i % 8);
            x.read();
            x.clear();
            x.type(0x6465616420342035L, 8);
            x.type(';', 1);
            x.call(0, 16 + i, i % 4);
            x.whistle(0, 16 + i, i % 4);
            x.turned(i);
            x.heardOf(i);
            x.undo();
            x.taken(0, i);
            x.clash(i % 3);
            x.alter();
            x.names(WhistledNames.NONE);
            x.bride(i);
            x.thief(0, i % 4, i);
            x.whistled(0, i % 4, i, 0);
            x.word(i, 0, i % 4, 0);
            x.free(i, 99);
            x.image(i % 2);
            x.from(i % 3);
            x.status(i % 4);
            x.count(i % 5);
            x.digest();
            if (i > 8) {
                x.read();
            }
        }
    }
}
