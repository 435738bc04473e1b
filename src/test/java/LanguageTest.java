import com.sun.management.ThreadMXBean;
import java.io.IOException;
import java.lang.management.ManagementFactory;
import java.lang.reflect.Constructor;
import java.lang.reflect.Field;
import java.lang.reflect.Method;
import java.lang.reflect.Modifier;
import java.nio.file.Files;
import java.nio.file.Path;
import java.util.ArrayList;
import java.util.List;
import java.util.TreeSet;

/** What of LANGUAGE.md can be seen from the class, from its text, and from what its calls make. */
public final class LanguageTest {
    private static final Check CHECK = new Check();
    private static final String FACE = "back() between(3) both(2) chain(1) clock(4) cost(4) count(1) dark(3) day(2) "
        + "dearest(3) due(1) edges(4) end(1) ends(2) fastest(4) fault(1) feed(5) image() land(1) last(2) late(1) most(2) "
        + "neverLater(6) notice(2) now(1) open(2) pass(1) plus(3) quick(3) race(5) rule(2) safe(4) send(4) served(4) "
        + "slack(3) stage(4) status(1) step(6) undo() way(1) withdraw(1) within(5) written(2)";

    private LanguageTest() { }

    public static void main(String[] args) throws IOException {
        face();
        members();
        text();
        room();
        CHECK.close();
    }

    private static void face() {
        CHECK.part("rule 1, the face");
        TreeSet<String> found = new TreeSet<>();
        for (Method m : NoticeDesk.class.getDeclaredMethods()) {
            if (Modifier.isPrivate(m.getModifiers())) {
                continue;
            }
            int count = m.getParameterCount();
            found.add(m.getName() + "(" + (count == 0 ? "" : count) + ")");
            CHECK.due(m.getName() + " is public", Modifier.isPublic(m.getModifiers()), true);
            CHECK.due(m.getName() + " is of the object", Modifier.isStatic(m.getModifiers()), false);
            Class<?> answer = m.getName().equals("end") ? boolean.class : int.class;
            CHECK.due(m.getName() + " answers as it must", m.getReturnType() == answer, true);
        }
        CHECK.due("methods: " + found, String.join(" ", found).equals(FACE), true);
        for (Field f : NoticeDesk.class.getDeclaredFields()) {
            boolean constant = f.getName().equals("NONE") || f.getName().equals("HIDDEN");
            int seen = constant ? Modifier.PUBLIC : Modifier.PRIVATE;
            CHECK.due(f.getName() + " is seen as it must be", (f.getModifiers() & seen) != 0, true);
        }
        Constructor<?>[] constructors = NoticeDesk.class.getDeclaredConstructors();
        CHECK.due("constructors", constructors.length, 1);
        CHECK.due("it is public", Modifier.isPublic(constructors[0].getModifiers()), true);
        CHECK.due("the class is final", Modifier.isFinal(NoticeDesk.class.getModifiers()), true);
    }

    private static void members() {
        CHECK.part("rules 1, 2, 5, 11, members");
        List<Class<?>> classes = new ArrayList<>(List.of(NoticeDesk.class.getDeclaredClasses()));
        for (Class<?> c : classes) {
            CHECK.due(c.getName() + " is static", Modifier.isStatic(c.getModifiers()), true);
            CHECK.due(c.getName() + " is hidden", Modifier.isPublic(c.getModifiers()), false);
        }
        classes.add(NoticeDesk.class);
        CHECK.due("twelve classes at most", classes.size() <= 12, true);
        for (Class<?> c : classes) {
            int fields = 0;
            for (Field f : c.getDeclaredFields()) {
                boolean isStatic = Modifier.isStatic(f.getModifiers());
                fields += isStatic ? 0 : 1;
                CHECK.due(f + " is final", !isStatic || Modifier.isFinal(f.getModifiers()), true);
            }
            CHECK.due(c.getName() + " has twenty fields at most", fields <= 20, true);
            for (Method m : c.getDeclaredMethods()) {
                boolean hidden = c != NoticeDesk.class || Modifier.isPrivate(m.getModifiers());
                boolean namesake = (" " + FACE).contains(" " + m.getName() + "(");
                CHECK.due(m + " has a name of its own", hidden && namesake, false);
                CHECK.due(m + " takes seven at most", m.getParameterCount() <= 7, true);
            }
        }
    }

    private static void text() throws IOException {
        CHECK.part("rules 4, 6, 10, 11, the text");
        Path root = Path.of(System.getProperty("project.root", "."));
        List<String> lines = Files.readAllLines(root.resolve("src/main/java/NoticeDesk.java"));
        String[] never = {"catch", "finally", "synchronized", "assert ", "->", "::", "package ", "System.out", "static {",
            "Exact(", "\" +", "+ \"", "record ", "double", "float", "boolean[", "var "};
        int opened = 0;
        for (int i = 0; i < lines.size(); i++) {
            String line = lines.get(i);
            for (String word : never) {
                CHECK.due("line " + (i + 1) + " has " + word, line.contains(word), false);
            }
            if (line.startsWith("import ")) {
                CHECK.due(line, line.matches("import java\\.util\\.(Arrays|NoSuchElementException);"), true);
            }
            if (line.contains("throw ")) {
                CHECK.due(line, line.contains("throw new NoSuchElementException(\""), true);
            }
            CHECK.due("line " + (i + 1) + " is plain", line.chars().allMatch(c -> c >= 32 && c < 127), true);
            boolean opens = line.matches(" {4}(?: {4})?[a-zA-Z].*\\) .*\\{") && !line.matches(" +(if|for|while|switch).*");
            opened = opens ? i : opened;
            boolean closes = line.matches(" {4}(?: {4})?}") && lines.get(opened).indexOf(lines.get(opened).trim())
                == line.indexOf('}');
            CHECK.due("the method at line " + (opened + 1) + " is short", closes && i - opened > 60, false);
            opened = closes ? i : opened;
        }
    }

    private static void room() {
        CHECK.part("rule 12, the room");
        busy();
        ThreadMXBean threads = (ThreadMXBean) ManagementFactory.getThreadMXBean();
        long me = Thread.currentThread().getId();
        long start = threads.getThreadAllocatedBytes(me);
        NoticeDesk x = new NoticeDesk();
        long made = threads.getThreadAllocatedBytes(me);
        CHECK.due("a desk takes " + (made - start) + " bytes, 100 KB at most", made - start < 100_000, true);
        tellAll(x);
        made = threads.getThreadAllocatedBytes(me);
        int sum = askAll(x);
        long asked = threads.getThreadAllocatedBytes(me);
        CHECK.due("calls take " + (asked - made) + " bytes, none but by chance", asked - made < 2_000, true);
        CHECK.due("they were asked", sum != 0, true);
    }

    private static void busy() {
        NoticeDesk x = new NoticeDesk();
        tellAll(x);
        askAll(x);
    }

    private static void tellAll(NoticeDesk x) {
        Check.land(x, 0, "zone 3;rest 0 1 2 3 4;on 5;on 6;on 12;moved");
        Check.land(x, 1, "zone - 9;rest 0 1 2 3 4 5;on 6;on 7;first 6 from 9;moved");
        Check.way(x, 0, "office there work 60 here work 60 there roll here back office hours 9 end");
        Check.way(x, 1, "office there office here begin");
        String stage = "by 0 from 0 to 1 wait 9 work at 9";
        Check.chain(x, 0, stage + ";" + stage + ";by 1 from 1 to 0 wait 5 days at 12");
        Check.feed(x, "zone 3;rest 0 1 2 3 4;on 5;on 6;on 12;moved");
    }

    private static int askAll(NoticeDesk x) {
        int sum = x.fault(0) + x.fault(1) + x.fault(2);
        for (int day = 0; day < 40; day++) {
            sum += x.served(0, 0, 1, 24 * day) + x.safe(0, 0, 1, day) + x.within(0, 0, 1, day, 0) + x.edges(0, 0, 1, day);
            sum += x.ends(0, day) + x.last(0, 9 * day) + x.quick(0, day, -1) + x.dearest(0, day, 1) + x.open(day, 2);
            sum += x.send(1, 0, 1, day) + x.pass(9) + x.withdraw(0) + x.due(0) + x.undo() + x.written(0, day);
            sum += x.most(day, 2) + x.both(day, 5) + x.race(0, 0, day, day + 9, 1) + x.dark(day, day + 9, 0);
        }
        sum += x.image() + x.back() + x.land(0);
        return sum;
    }
}
