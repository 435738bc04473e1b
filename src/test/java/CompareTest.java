import java.lang.reflect.InvocationTargetException;
import java.lang.reflect.Method;
import java.lang.reflect.Modifier;
import java.util.ArrayList;
import java.util.Arrays;
import java.util.Comparator;
import java.util.HashMap;
import java.util.List;
import java.util.Map;
import java.util.Random;

/** Runs of calls, always the same ones, on NoticeDesk and PlainDesk: every answer must be alike. */
public final class CompareTest {
    private static final int RUNS = 260;
    private static final int CALLS = 400;
    private static final int MOST_PRINTED = 20;
    // Numbers at and beyond every edge, put in the place of an argument now and then.
    private static final int[] FAR = {Integer.MIN_VALUE, Integer.MIN_VALUE + 1, -96001, -96000, -4001, -4000, -25, -2, -1, 0, 1,
        2, 5, 6, 7, 8, 11, 12, 23, 24, 300, 3998, 3999, 4000, 4001, 9999, 10000, 95998, 95999, 96000, 96001,
        Integer.MAX_VALUE - 1, Integer.MAX_VALUE};

    private final Random random;
    private final NoticeDesk desk = new NoticeDesk();
    private final PlainDesk plain = new PlainDesk();
    private final List<String> log = new ArrayList<>();
    private final int run;
    private int slowCallsLeft = 12;
    private int day = 0;
    private boolean daring;
    private static int wrong;
    private static int asked;
    private static final Map<String, Integer> TOLD = new HashMap<>();
    private static final List<Method> FACE = face();
    private static final Map<String, Method> PLAIN = plainFace();

    private CompareTest(int run) {
        this.run = run;
        this.random = new Random(run);
    }

    private static List<Method> face() {
        List<Method> methods = new ArrayList<>();
        for (Method m : NoticeDesk.class.getDeclaredMethods()) {
            if (Modifier.isPublic(m.getModifiers())) {
                methods.add(m);
            }
        }
        methods.sort(Comparator.comparing(Method::getName));
        return methods;
    }

    private static Map<String, Method> plainFace() {
        Map<String, Method> methods = new HashMap<>();
        for (Method m : PlainDesk.class.getDeclaredMethods()) {
            if (Modifier.isPublic(m.getModifiers())) {
                methods.put(m.getName(), m);
            }
        }
        return methods;
    }

    /** Without arguments the runs that .ci/run makes; with two, those from the first number to below the second. */
    public static void main(String[] args) throws Exception {
        int first = args.length == 2 ? Integer.parseInt(args[0]) : 0;
        int stop = args.length == 2 ? Integer.parseInt(args[1]) : RUNS;
        for (int run = first; run < stop && wrong < MOST_PRINTED; run++) {
            new CompareTest(run).go();
        }
        System.out.println(asked + " answers compared, " + wrong + " unlike; answers that tell something: " + TOLD);
        if (wrong > 0 || TOLD.size() < FACE.size()) {
            System.exit(1);
        }
    }

    private void go() throws Exception {
        for (int i = 0; i < CALLS && wrong < MOST_PRINTED; i++) {
            if (i == 0 || chance(60)) {
                day = pick(0, 3999, 30, 4000);
            }
            if (i < 12 || chance(12)) {
                tell();
            } else {
                daring = chance(8);
                callAny();
                daring = false;
            }
        }
    }

    private boolean chance(int oneIn) {
        return random.nextInt(oneIn) == 0;
    }

    private int upTo(int most) {
        return random.nextInt(most + 1);
    }

    /** One of these, or any number up to them. */
    private int pick(int... some) {
        int one = some[random.nextInt(some.length)];
        return one == Integer.MAX_VALUE || chance(2) ? one : upTo(Math.max(one, 0));
    }

    private Object call(String name, Integer... args) throws Exception {
        if (daring && args.length > 0) {
            args[random.nextInt(args.length)] = FAR[random.nextInt(FAR.length)];
        }
        Object got = null;
        Object want = null;
        for (Method m : FACE) {
            if (m.getName().equals(name)) {
                got = invoke(m, desk, args);
                want = invoke(PLAIN.get(name), plain, args);
            }
        }
        asked++;
        log.add(name + Arrays.toString(args) + " " + got);
        if (!(got instanceof Integer n) || n >= 0) {
            TOLD.merge(name, 1, Integer::sum);
        }
        if (got == null || !got.equals(want)) {
            wrong++;
            System.out.println("run " + run + ", call " + log.size() + ": " + name + Arrays.toString(args)
                + " answered " + got + ", PlainDesk says " + want);
            if (wrong == 1) {
                System.out.println(String.join("\n", log.subList(Math.max(0, log.size() - 60), log.size())));
            }
        }
        return got;
    }

    private static Object invoke(Method m, Object on, Integer... args) throws Exception {
        try {
            return m.invoke(on, (Object[]) args);
        } catch (InvocationTargetException thrown) {
            return thrown.getCause().getClass().getName();
        }
    }

    private void feed(String text) throws Exception {
        call("end", 0);
        for (int[] five : Check.numbers(text)) {
            call("feed", five[0], five[1], five[2], five[3], five[4]);
        }
        log.add("TEXT \"" + text + "\"");
    }

    private void tell() throws Exception {
        int kind = random.nextInt(3);
        String text = kind == 0 ? landText() : kind == 1 ? wayText() : chainText();
        if (chance(4)) {
            text = spoil(text);
        }
        feed(text);
        call("fault", chance(6) ? upTo(3) : kind);
        String[] names = {"land", "way", "chain"};
        int[] most = {1, 7, 5};
        call(names[kind], chance(20) ? most[kind] + 1 : upTo(most[kind]));
        call("count", 0);
    }

    private String spoil(String text) {
        StringBuilder s = new StringBuilder(text);
        String some = "; -0123456789aobwyzA\t\u00e9";
        for (int i = upTo(2); i >= 0; i--) {
            int at = upTo(s.length());
            if (at < s.length() && chance(2)) {
                s.deleteCharAt(at);
            } else {
                s.insert(at, some.charAt(random.nextInt(some.length())));
            }
        }
        return s.toString();
    }

    private String gap() {
        return chance(6) ? "  " : " ";
    }

    private String landText() {
        List<String> pieces = new ArrayList<>();
        if (!chance(4)) {
            pieces.add("zone" + gap() + (chance(2) ? "-" + gap() : "") + upTo(12));
        }
        if (chance(2)) {
            pieces.add("open " + upTo(12) + gap() + (13 + upTo(11)));
        }
        if (chance(2)) {
            StringBuilder rest = new StringBuilder("rest");
            int bits = chance(3) ? 127 - (1 << upTo(6)) : 1 + upTo(125);
            for (int d = 0; d < 7; d++) {
                rest.append((bits >> d & 1) == 1 ? gap() + d : "");
            }
            pieces.add(rest.toString());
        }
        for (int i = chance(5) ? 12 : upTo(7); i > 0; i--) {
            pieces.add(telling());
        }
        if (!chance(3)) {
            pieces.add(chance(5) ? "kept" : "moved");
        }
        java.util.Collections.shuffle(pieces, random);
        return String.join(chance(2) ? ";" : " ; ", pieces);
    }

    private String telling() {
        int near = Math.floorMod(day + random.nextInt(40) - 10, 365);
        switch (random.nextInt(3)) {
            case 0:
                return "on" + gap() + near;
            case 1:
                return "first " + upTo(6) + " from " + Math.min(near, 358);
            default:
                return "once " + Math.max(0, Math.min(3999, day + random.nextInt(40) - 10));
        }
    }

    private String wayText() {
        String[] plainWords = {"here", "there", "office", "roll", "back", "begin", "end"};
        List<String> steps = new ArrayList<>();
        for (int i = chance(8) ? 11 : upTo(5); i >= 0; i--) {
            switch (random.nextInt(6)) {
                case 0:
                    steps.add("hours" + gap() + (chance(9) ? 99 : upTo(30)));
                    break;
                case 1:
                    steps.add("days" + gap() + (chance(9) ? 99 : upTo(9)));
                    break;
                case 2:
                    steps.add("work" + gap() + (chance(9) ? 60 : 1 + upTo(9)));
                    break;
                default:
                    steps.add(plainWords[random.nextInt(plainWords.length)]);
                    break;
            }
        }
        return String.join(gap(), steps);
    }

    private String chainText() {
        List<String> stages = new ArrayList<>();
        for (int i = chance(6) ? 5 : upTo(3); i >= 0; i--) {
            stages.add("by " + toldWay() + " from " + upTo(1) + " to " + upTo(1) + " wait "
                + (chance(9) ? 99 : upTo(12)) + (chance(2) ? " days" : " work") + " at " + upTo(23));
        }
        return String.join(chance(2) ? ";" : " ; ", stages);
    }

    private int toldWay() {
        int bits = desk.now(7);
        for (int i = 0; i < 30; i++) {
            int way = upTo(7);
            if ((bits >> way & 1) == 1) {
                return way;
            }
        }
        return upTo(7);
    }

    private int toldChain() {
        int bits = desk.now(8);
        for (int i = 0; i < 30; i++) {
            int chain = upTo(5);
            if ((bits >> chain & 1) == 1) {
                return chain;
            }
        }
        return upTo(5);
    }

    private int someDay() {
        return chance(40) ? pick(-1, 4000) : Math.max(0, Math.min(3999, day + random.nextInt(70) - 15));
    }

    private int someMoment() {
        return chance(40) ? pick(-1, 96000, 95999) : 24 * Math.max(0, Math.min(3999, someDay())) + upTo(23);
    }

    private int someLand() {
        return chance(50) ? pick(-1, 2) : upTo(1);
    }

    private int someWay() {
        return chance(40) ? pick(-1, 8) : toldWay();
    }

    private int someChain() {
        return chance(40) ? pick(-1, 6) : toldChain();
    }

    private int someN() {
        return chance(9) ? pick(Integer.MAX_VALUE, Integer.MIN_VALUE, 3000, -3000) : random.nextInt(60) - 30;
    }

    private int holidayNear(int land) {
        int from = Math.max(0, someDay());
        for (int d = from; d < from + 400; d++) {
            if (desk.day(land, d) == 2) {
                return d;
            }
        }
        return from;
    }

    private void callAny() throws Exception {
        Method m = FACE.get(random.nextInt(FACE.size()));
        String name = m.getName();
        int first = someDay();
        int last = chance(6) ? pick(0, 3999) : first + random.nextInt(45) - 2;
        switch (name) {
            case "feed" -> call(name, random.nextInt(), 0, random.nextInt(), 32, someN());
            case "end" -> call(name, pick(-1, 0, 5, 300));
            case "land", "way", "chain", "fault", "count", "status", "late" -> call(name, random.nextInt(6) - 1);
            case "rule" -> call(name, someLand(), random.nextInt(9) - 1);
            case "day" -> call(name, someLand(), first);
            case "plus" -> call(name, someLand(), first, someN());
            case "both" -> call(name, first, someN());
            case "open" -> call(name, first, random.nextInt(6) - 1);
            case "dark" -> call(name, first, chance(3) ? first + 58 + upTo(3) : last, random.nextInt(4) - 1);
            case "between" -> call(name, someLand(), first, last);
            case "clock" -> call(name, someLand(), someMoment(), someLand(), someN());
            case "most" -> call(name, first, random.nextInt(7) - 1);
            case "written" -> call(name, someWay(), random.nextInt(60) - 2);
            case "due" -> call(name, random.nextInt(14) - 1);
            case "now" -> call(name, random.nextInt(11) - 1);
            case "undo", "image", "back" -> {
                // Seldom, so that books grow.
                if (chance(8)) {
                    call(name);
                }
            }
            default -> callLonger(name, first, last);
        }
    }

    private void callLonger(String name, int first, int last) throws Exception {
        int land = upTo(1);
        switch (name) {
            case "served" -> call(name, someWay(), someLand(), someLand(), someMoment());
            case "step" -> call(name, someWay(), someLand(), someLand(), someMoment(), upTo(6), upTo(2));
            case "edges" -> call(name, someWay(), someLand(), someLand(), first);
            case "fastest" -> call(name, someLand(), someLand(), someMoment(), upTo(1));
            case "neverLater" -> call(name, someWay(), someWay(), someLand(), someLand(), first, last);
            case "ends" -> call(name, someChain(), first);
            case "stage" -> call(name, someChain(), first, upTo(4), upTo(1));
            case "quick" -> call(name, someChain(), first, random.nextInt(5) - 1);
            case "race" -> call(name, someChain(), someChain(), first, chance(3) ? first + 99 : last, upTo(2));
            case "cost" -> call(name, someChain(), first, land, holidayNear(land));
            case "send" -> call(name, someWay(), someLand(), someLand(), chance(3) ? -1 : sendTerm());
            case "withdraw" -> call(name, random.nextInt(14) - 1);
            case "pass" -> call(name, chance(5) ? pick(-1, 0, 9999, 10000) : 1 + upTo(60));
            case "notice" -> call(name, random.nextInt(13) - 1, random.nextInt(10) - 1);
            default -> callSlow(name, first, last);
        }
    }

    private int sendTerm() {
        int today = desk.now(0) / 24;
        return chance(30) ? 4000 : Math.min(3999, today + upTo(9));
    }

    private void callSlow(String name, int first, int last) throws Exception {
        if (slowCallsLeft == 0) {
            return;
        }
        slowCallsLeft--;
        switch (name) {
            case "safe" -> call(name, someWay(), someLand(), someLand(), first);
            case "within" -> call(name, someWay(), someLand(), someLand(), first, upTo(2));
            case "last" -> call(name, someChain(), first);
            case "slack" -> call(name, someChain(), first, last);
            case "dearest" -> call(name, someChain(), first, upTo(2));
            default -> throw new IllegalStateException("no calls for " + name);
        }
    }
}
