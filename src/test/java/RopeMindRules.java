import java.lang.management.ManagementFactory;
import java.lang.reflect.Constructor;
import java.lang.reflect.Field;
import java.lang.reflect.Method;
import java.lang.reflect.Modifier;
import java.nio.charset.StandardCharsets;
import java.nio.file.Files;
import java.nio.file.Path;
import java.util.Set;
import java.util.TreeSet;
import java.util.regex.Matcher;
import java.util.regex.Pattern;

/** What can be seen of ../shared/LANGUAGE.md from outside: the face, words that may not stand, room that is used. */
public final class RopeMindRules {
    private static final Set<String> FACE = Set.of("state", "rope", "set", "tie", "untie", "pull", "wet", "cut", "splice",
            "sell", "days", "feed", "end", "text", "fault", "drill", "of", "at", "habit", "book", "would", "least", "train",
            "told", "fits", "weak", "ladder", "order", "yard", "moves", "shape", "unlike", "whose", "undo", "image", "look");

    private RopeMindRules() { }

    public static void main(String[] args) throws Exception {
        face();
        insideClasses();
        words();
        room();
        Check.end();
    }

    private static boolean isHidden(int modifiers) {
        return Modifier.isPrivate(modifiers);
    }

    private static void face() {
        Check.part("rule 1");
        Set<String> seen = new TreeSet<>();
        for (Method m : RopeMind.class.getDeclaredMethods()) {
            if (!isHidden(m.getModifiers()) && !m.isSynthetic()) {
                Check.due("public " + m.getName(), Modifier.isPublic(m.getModifiers()), true);
                Check.due("once " + m.getName(), seen.add(m.getName()), true);
            } else {
                Check.due("private " + m.getName(), FACE.contains(m.getName()), false);
            }
        }
        Check.due("the 36 methods", seen.equals(new TreeSet<>(FACE)), true);
        for (Field f : RopeMind.class.getDeclaredFields()) {
            Check.due("field " + f.getName(), isHidden(f.getModifiers()) || f.getName().equals("NONE"), true);
            if (Modifier.isStatic(f.getModifiers())) {
                Check.due("final " + f.getName(), Modifier.isFinal(f.getModifiers()), true);
            }
        }
        Constructor<?>[] made = RopeMind.class.getDeclaredConstructors();
        Check.due("constructors", made.length, 1);
        Check.due("its parameters", made[0].getParameterCount(), 0);
        Check.due("final", Modifier.isFinal(RopeMind.class.getModifiers()), true);
    }

    private static void insideClasses() {
        Check.part("rules 2 and 11");
        Class<?>[] inside = RopeMind.class.getDeclaredClasses();
        Check.due("twelve classes at most", inside.length <= 12, true);
        for (Class<?> c : inside) {
            Check.due("static " + c.getName(), Modifier.isStatic(c.getModifiers()), true);
            int own = 0;
            for (Field f : c.getDeclaredFields()) {
                own += Modifier.isStatic(f.getModifiers()) ? 0 : 1;
            }
            Check.due("fields of " + c.getName(), own <= 20, true);
            for (Method m : c.getDeclaredMethods()) {
                Check.due("a name of the face: " + m.getName(), FACE.contains(m.getName()), false);
                Check.due("parameters of " + m.getName(), m.getParameterCount() <= 7, true);
            }
        }
    }

    private static void words() throws Exception {
        Check.part("rules 3 to 6 and 13");
        String source = Files.readString(Path.of("src/main/java/RopeMind.java"), StandardCharsets.ISO_8859_1);
        for (int i = 0; i < source.length(); i++) {
            if (source.charAt(i) > 126) {
                Check.due("sign " + (int) source.charAt(i) + " at " + i, false, true);
            }
        }
        String code = source.replaceAll("(?s)/\\*.*?\\*/", " ").replaceAll("//[^\n]*", " ").replaceAll("\"[^\"\n]*\"", "\"\"");
        Matcher m = Pattern.compile("\\b(throw|try|catch|synchronized|assert|double|float|Random|Thread|System\\.(?!arraycopy)\\w+"
                + "|hashCode|toString|\\w+Exact|package)\\b|->|::|String\\[").matcher(code);
        while (m.find()) {
            Check.due("'" + m.group() + "'", false, true);
        }
        Matcher imports = Pattern.compile("import ([^;]*);").matcher(code);
        while (imports.find()) {
            Check.due("import " + imports.group(1), Set.of("java.util.Arrays", "java.util.ArrayList", "java.util.List")
                    .contains(imports.group(1)), true);
        }
    }

    /** Calls make nothing: a run of the dearest ones uses no more room than a few objects do. */
    private static void room() {
        Check.part("rule 12");
        busyRun(); // once ahead, so that loading classes is not counted
        com.sun.management.ThreadMXBean threads = (com.sun.management.ThreadMXBean) ManagementFactory.getThreadMXBean();
        long before = threads.getThreadAllocatedBytes(Thread.currentThread().getId());
        busyRun();
        long used = threads.getThreadAllocatedBytes(Thread.currentThread().getId()) - before;
        Check.due("room of a run of 512 calls: " + used + " bytes", used < 600_000, true);
    }

    private static void busyRun() {
        RopeMind x = new RopeMind();
        x.rope(24, 1);
        x.rope(20, 1);
        x.order(7);
        Check.tell(x, 3, "again 9(again 2(tie 1 at 1;untie 1;))rest 3;");
        Check.tell(x, 7, "ootuuto");
        for (int i = 0; i < 35; i++) {
            x.drill(0, 1);
            x.pull(1, 80);
            x.would(0, 80, 0);
            x.least(0, 1);
            x.train(0, 3, 3, 3);
            x.fits(0, 3, 3);
            x.yard(10);
            x.moves(3, 0);
            x.image(true);
            x.image(false);
            x.days(60);
            x.ladder(5);
            x.feed(1, 2, 3, 4, 5);
            x.text(0);
        }
    }
}
