import java.util.ArrayDeque;
import java.util.ArrayList;
import java.util.Deque;
import java.util.List;
import java.util.NoSuchElementException;
import java.util.TreeSet;
import java.util.regex.Matcher;
import java.util.regex.Pattern;

/**
 * The document's promises a second time, without short cuts: every moment is tried, every day is walked. Only for
 * comparing; moments are kept by the common clock here, and nothing rests on "later sent, never served earlier".
 */
public final class PlainDesk {
    private static final int NONE = -1;
    private static final int HIDDEN = -1000000;
    private static final int NEVER = 4000;

    private record Part(String text, int place) {
        boolean isNumber() {
            return Character.isDigit(text.charAt(0));
        }
    }

    private static final class Fault extends Exception {
        private static final long serialVersionUID = 1L;
        final int place;

        Fault(int place) {
            this.place = place;
        }
    }

    private static final class Text {
        final List<Part> parts = new ArrayList<>();
        final int length;
        int at;

        Text(String text) {
            length = text.length();
            Matcher m = Pattern.compile("[a-z]+|[0-9]+|[^ ]", Pattern.DOTALL).matcher(text);
            while (m.find()) {
                parts.add(new Part(m.group(), m.start()));
            }
        }

        boolean over() {
            return at == parts.size();
        }

        String peek() {
            return over() ? "" : parts.get(at).text;
        }

        Fault fault() {
            return new Fault(over() ? length : parts.get(at).place);
        }

        boolean accept(String word) {
            boolean is = peek().equals(word);
            at += is ? 1 : 0;
            return is;
        }

        void expect(String word) throws Fault {
            if (!accept(word)) {
                throw fault();
            }
        }

        int number(int low, int high) throws Fault {
            if (over() || !parts.get(at).isNumber() || peek().length() > 4) {
                throw fault();
            }
            int value = Integer.parseInt(peek());
            if (value < low || value > high) {
                throw fault();
            }
            at++;
            return value;
        }
    }

    private static final class Land {
        int zone = 0;
        TreeSet<Integer> rest = new TreeSet<>(List.of(5, 6));
        int from = 9;
        int to = 17;
        boolean moved = false;
        final TreeSet<Integer> told = new TreeSet<>();
        final TreeSet<Integer> holidays = new TreeSet<>();

        boolean isRest(int day) {
            return rest.contains(day % 7);
        }

        boolean works(int day) {
            return day >= 0 && day <= 3999 && !isRest(day) && !holidays.contains(day);
        }

        void settle() {
            told.removeIf(d -> d > 3999);
            for (int d : told) {
                if (!isRest(d)) {
                    holidays.add(d);
                }
            }
            for (int d : told) {
                if (moved && isRest(d)) {
                    int next = d + 1;
                    while (isRest(next) || holidays.contains(next)) {
                        next++;
                    }
                    if (next <= 3999) {
                        holidays.add(next);
                    }
                }
            }
        }
    }

    private record Step(String word, int n) { }

    private record Stage(int way, int from, int to, int delay, boolean work, int hour) { }

    private static final class Notice {
        int way;
        int from;
        int to;
        int sent;
        int served;
        int term;
        int land;
    }

    private record Kept(List<Notice> notices, int clock) { }

    private final StringBuilder tape = new StringBuilder();
    private final Land[] lands = {new Land(), new Land()};
    private final List<List<Step>> ways = new ArrayList<>();
    private final List<List<Stage>> chains = new ArrayList<>();
    private List<Notice> notices = new ArrayList<>();
    private int clock = 0;
    private final Deque<Kept> acts = new ArrayDeque<>();
    private Kept imageKept;
    private final int[] refused = new int[4];
    private int endLand;
    private int endLocal;
    private final int[][] servedAt = new int[32][];

    public PlainDesk() {
        for (int i = 0; i < 8; i++) {
            ways.add(null);
        }
        for (int i = 0; i < 6; i++) {
            chains.add(null);
        }
    }

    public int feed(int a, int b, int c, int d, int e) {
        if (tape.length() > 300) {
            return NONE;
        }
        for (int n : new int[] {a, b, c, d, e}) {
            for (int k = 0; k < 4; k++) {
                int value = n << 8 * k >>> 24;
                if (value > 0) {
                    tape.append((char) value);
                }
            }
        }
        return tape.length();
    }

    public boolean end(int n) {
        if (n < 0 || n > tape.length()) {
            return false;
        }
        tape.setLength(n);
        return true;
    }

    private static Land readLand(String tape) throws Fault {
        Text t = new Text(tape);
        Land land = new Land();
        TreeSet<String> seen = new TreeSet<>();
        int tellings = 0;
        boolean first = true;
        while (first ? !t.over() : true) {
            if (!first) {
                t.expect(";");
            }
            first = false;
            String word = t.peek();
            boolean telling = word.equals("on") || word.equals("first") || word.equals("once");
            boolean single = List.of("zone", "rest", "open", "kept", "moved").contains(word);
            String group = word.equals("kept") ? "moved" : word;
            if (!telling && !single || telling && tellings == 12 || single && !seen.add(group)) {
                throw t.fault();
            }
            tellings += telling ? 1 : 0;
            t.at++;
            switch (word) {
                case "zone" -> land.zone = t.accept("-") ? -t.number(0, 12) : t.number(0, 12);
                case "rest" -> readRest(t, land);
                case "open" -> {
                    land.from = t.number(0, 23);
                    land.to = t.number(land.from + 1, 24);
                }
                case "kept" -> land.moved = false;
                case "moved" -> land.moved = true;
                case "on" -> {
                    int n = t.number(0, 364);
                    for (int y = 0; y <= 10; y++) {
                        land.told.add(365 * y + n);
                    }
                }
                case "first" -> {
                    int d = t.number(0, 6);
                    t.expect("from");
                    int n = t.number(0, 358);
                    for (int y = 0; y <= 10; y++) {
                        int day = 365 * y + n;
                        while (day % 7 != d) {
                            day++;
                        }
                        land.told.add(day);
                    }
                }
                default -> land.told.add(t.number(0, 3999));
            }
            if (t.over()) {
                break;
            }
        }
        land.settle();
        return land;
    }

    private static void readRest(Text t, Land land) throws Fault {
        land.rest = new TreeSet<>();
        do {
            int place = t.at;
            int d = t.number(0, 6);
            if (land.rest.contains(d) || land.rest.size() == 6) {
                t.at = place;
                throw t.fault();
            }
            land.rest.add(d);
        } while (!t.over() && t.parts.get(t.at).isNumber());
    }

    private static List<Step> readWay(String tape) throws Fault {
        Text t = new Text(tape);
        List<Step> steps = new ArrayList<>();
        do {
            String word = t.peek();
            boolean plain = List.of("here", "there", "office", "roll", "back", "begin", "end").contains(word);
            boolean counted = List.of("hours", "days", "work").contains(word);
            if (!plain && !counted || steps.size() == 12) {
                throw t.fault();
            }
            t.at++;
            int n = plain ? NONE : word.equals("work") ? t.number(1, 60) : t.number(0, 99);
            steps.add(new Step(word, n));
        } while (!t.over());
        return steps;
    }

    private List<Stage> readChain(String tape) throws Fault {
        Text t = new Text(tape);
        List<Stage> stages = new ArrayList<>();
        do {
            if (!stages.isEmpty()) {
                t.expect(";");
            }
            if (stages.size() == 6) {
                throw t.fault();
            }
            t.expect("by");
            int place = t.at;
            int way = t.number(0, 7);
            if (ways.get(way) == null) {
                t.at = place;
                throw t.fault();
            }
            t.expect("from");
            int from = t.number(0, 1);
            t.expect("to");
            int to = t.number(0, 1);
            t.expect("wait");
            int wait = t.number(0, 99);
            boolean work = t.accept("work");
            if (!work) {
                t.expect("days");
            }
            t.expect("at");
            stages.add(new Stage(way, from, to, wait, work, t.number(0, 23)));
        } while (!t.over());
        return stages;
    }

    public int fault(int what) {
        try {
            switch (what) {
                case 0 -> readLand(tape.toString());
                case 1 -> readWay(tape.toString());
                case 2 -> readChain(tape.toString());
                default -> {
                    return -2;
                }
            }
        } catch (Fault f) {
            return f.place;
        }
        return NONE;
    }

    private void forgetServed() {
        for (int i = 0; i < servedAt.length; i++) {
            servedAt[i] = null;
        }
    }

    public int land(int land) {
        if (land < 0 || land > 1) {
            return NONE;
        }
        try {
            lands[land] = readLand(tape.toString());
        } catch (Fault f) {
            return NONE;
        }
        forgetServed();
        tape.setLength(0);
        return lands[land].holidays.size();
    }

    public int way(int way) {
        if (way < 0 || way > 7) {
            return NONE;
        }
        try {
            ways.set(way, readWay(tape.toString()));
        } catch (Fault f) {
            return NONE;
        }
        forgetServed();
        tape.setLength(0);
        return ways.get(way).size();
    }

    public int chain(int chain) {
        if (chain < 0 || chain > 5) {
            return NONE;
        }
        try {
            chains.set(chain, readChain(tape.toString()));
        } catch (Fault f) {
            return NONE;
        }
        tape.setLength(0);
        return chains.get(chain).size();
    }

    private static boolean land01(int land) {
        return land == 0 || land == 1;
    }

    private static boolean isDay(int day) {
        return 0 <= day && day <= 3999;
    }

    private boolean isWay(int way) {
        return way >= 0 && way <= 7 && ways.get(way) != null;
    }

    private boolean isChain(int chain) {
        return chain >= 0 && chain <= 5 && chains.get(chain) != null;
    }

    public int rule(int land, int what) {
        if (!land01(land) || what < 0 || what > 6) {
            return HIDDEN;
        }
        Land l = lands[land];
        int restBits = 0;
        for (int d : l.rest) {
            restBits += 1 << d;
        }
        int work = 0;
        for (int d = 0; d <= 3999; d++) {
            work += l.works(d) ? 1 : 0;
        }
        return new int[] {l.zone, restBits, l.from, l.to, l.holidays.size(), work, l.moved ? 1 : 0}[what];
    }

    public int day(int land, int day) {
        if (!land01(land) || !isDay(day)) {
            return NONE;
        }
        return lands[land].isRest(day) ? 1 : lands[land].holidays.contains(day) ? 2 : 0;
    }

    private boolean works(int land, int day) {
        return land == 2 ? lands[0].works(day) && lands[1].works(day) : lands[land].works(day);
    }

    private int walk(int land, int day, int n) {
        if (n == 0) {
            return works(land, day) ? day : NONE;
        }
        long left = Math.abs((long) n);
        for (int d = day + Integer.signum(n); isDay(d); d += Integer.signum(n)) {
            if (works(land, d)) {
                left--;
                if (left == 0) {
                    return d;
                }
            }
        }
        return NONE;
    }

    public int plus(int land, int day, int n) {
        return land01(land) && isDay(day) ? walk(land, day, n) : NONE;
    }

    public int both(int day, int n) {
        return isDay(day) ? walk(2, day, n) : NONE;
    }

    private boolean isOpen(int land, int moment) {
        Land l = lands[land];
        int local = moment + l.zone;
        int hour = (local + 240) % 24;
        int day = (local + 240) / 24 - 10;
        return l.works(day) && hour >= l.from && hour < l.to;
    }

    public int open(int day, int what) {
        if (!isDay(day) || what < 0 || what > 3) {
            return NONE;
        }
        int bits = 0;
        for (int h = 0; h < 24; h++) {
            boolean zero = isOpen(0, 24 * day + h);
            boolean one = isOpen(1, 24 * day + h);
            boolean is = what == 0 ? zero : what == 1 ? one : what == 2 ? zero && one : zero || one;
            bits += is ? 1 << h : 0;
        }
        return bits;
    }

    public int dark(int first, int last, int what) {
        if (!isDay(first) || !isDay(last) || last < first || last - first + 1 > 60 || what < 0 || what > 1) {
            return NONE;
        }
        int end = 24 * last + 24;
        int best = 0;
        int at = NONE;
        for (int m = 24 * first; m < end; m++) {
            int stop = m;
            while (stop < end && !isOpen(0, stop) && !isOpen(1, stop)) {
                stop++;
            }
            if (stop - m > best) {
                best = stop - m;
                at = m;
            }
        }
        return what == 0 ? best : at;
    }

    public int between(int land, int from, int to) {
        if (!land01(land) || !isDay(from) || !isDay(to)) {
            return HIDDEN;
        }
        int n = 0;
        for (int d = from + 1; d <= to; d++) {
            n += works(land, d) ? 1 : 0;
        }
        for (int d = to; d < from; d++) {
            n -= works(land, d) ? 1 : 0;
        }
        return n;
    }

    public int clock(int land, int moment, int other, int n) {
        if (!land01(land) || !land01(other) || moment < 0 || moment > 95999) {
            return HIDDEN;
        }
        long common = (long) moment - lands[land].zone + n;
        long there = common + lands[other].zone;
        return there < 0 || there > 95999 ? HIDDEN : (int) there;
    }

    /** The DAY behind so many steps, NEVER; leaves endLand, endLocal. */
    private int serve(List<Step> steps, int from, int to, int common, int howMany) {
        int looked = from;
        int moment = common;
        int done = 0;
        while (true) {
            Land l = lands[looked];
            int local = moment + l.zone;
            if (local < 0 || local > 95999) {
                return NEVER;
            }
            endLand = looked;
            endLocal = local;
            if (done == howMany) {
                return local / 24;
            }
            Step s = steps.get(done++);
            int day = local / 24;
            int hour = local % 24;
            int ahead = walk(looked, day, -1);
            int behind = walk(looked, day, 1);
            int next = local;
            switch (s.word) {
                case "here" -> looked = from;
                case "there" -> looked = to;
                case "hours" -> next = local + s.n;
                case "days" -> next = local + 24 * s.n;
                case "begin" -> next = 24 * day;
                case "end" -> next = 24 * day + 23;
                case "office" -> {
                    if (l.works(day) && hour < l.to) {
                        next = 24 * day + (hour < l.from ? l.from : hour);
                    } else if (behind == NONE) {
                        return NEVER;
                    } else {
                        next = 24 * behind + l.from;
                    }
                }
                case "roll" -> {
                    if (!l.works(day)) {
                        if (behind == NONE) {
                            return NEVER;
                        }
                        next = 24 * behind;
                    }
                }
                case "back" -> {
                    if (!l.works(day)) {
                        if (ahead == NONE) {
                            return NEVER;
                        }
                        next = 24 * ahead + 23;
                    }
                }
                default -> {
                    if (!l.works(day)) {
                        if (ahead == NONE) {
                            return NEVER;
                        }
                        day = ahead;
                        hour = 23;
                    }
                    int found = walk(looked, day, s.n);
                    if (found == NONE) {
                        return NEVER;
                    }
                    next = 24 * found + hour;
                }
            }
            moment = next - l.zone;
        }
    }

    private int serve(int way, int from, int to, int local) {
        List<Step> steps = ways.get(way);
        return serve(steps, from, to, local - lands[from].zone, steps.size());
    }

    private int[] allServed(int way, int from, int to) {
        int key = 4 * way + 2 * from + to;
        if (servedAt[key] == null) {
            servedAt[key] = new int[96000];
            for (int m = 0; m < 96000; m++) {
                servedAt[key][m] = serve(way, from, to, m);
            }
        }
        return servedAt[key];
    }

    private static int told(int day) {
        return day == NEVER ? NONE : day;
    }

    private boolean route(int way, int from, int to) {
        return isWay(way) && land01(from) && land01(to);
    }

    public int served(int way, int from, int to, int moment) {
        if (!route(way, from, to) || moment < 0 || moment > 95999) {
            return -2;
        }
        return told(serve(way, from, to, moment));
    }

    public int step(int way, int from, int to, int moment, int k, int what) {
        if (!route(way, from, to) || moment < 0 || moment > 95999 || what < 0 || what > 2) {
            return -2;
        }
        if (k < 0 || k >= ways.get(way).size()) {
            return -2;
        }
        int day = serve(ways.get(way), from, to, moment - lands[from].zone, k + 1);
        return day == NEVER ? NONE : what == 0 ? day : what == 1 ? endLocal % 24 : endLand;
    }

    public int safe(int way, int from, int to, int day) {
        if (!route(way, from, to) || !isDay(day)) {
            return -2;
        }
        int[] all = allServed(way, from, to);
        for (int m = 95999; m >= 0; m--) {
            if (all[m] <= day) {
                return m;
            }
        }
        return NONE;
    }

    public int within(int way, int from, int to, int day, int what) {
        if (!route(way, from, to) || !isDay(day) || what < 0 || what > 2) {
            return -2;
        }
        int[] all = allServed(way, from, to);
        int n = 0;
        int first = NONE;
        int last = NONE;
        for (int m = 0; m < 96000; m++) {
            if (all[m] == day) {
                n++;
                first = first == NONE ? m : first;
                last = m;
            }
        }
        return what == 0 ? n : what == 1 ? first : last;
    }

    public int edges(int way, int from, int to, int day) {
        if (!route(way, from, to) || !isDay(day)) {
            return NONE;
        }
        int bits = 0;
        for (int h = 0; h < 24; h++) {
            int m = 24 * day + h;
            if (m > 0 && serve(way, from, to, m) > serve(way, from, to, m - 1)) {
                bits += 1 << h;
            }
        }
        return bits;
    }

    private int quickest(int from, int to, int local) {
        int best = NONE;
        int bestDay = NEVER;
        for (int w = 7; w >= 0; w--) {
            int day = isWay(w) ? serve(w, from, to, local) : NEVER;
            if (day != NEVER && day <= bestDay) {
                best = w;
                bestDay = day;
            }
        }
        return best;
    }

    public int fastest(int from, int to, int moment, int what) {
        if (!land01(from) || !land01(to) || moment < 0 || moment > 95999 || what < 0 || what > 1) {
            return -2;
        }
        int best = quickest(from, to, moment);
        return best == NONE || what == 0 ? best : serve(best, from, to, moment);
    }

    public int neverLater(int one, int other, int from, int to, int first, int last) {
        if (!route(one, from, to) || !route(other, from, to) || !isDay(first) || !isDay(last)) {
            return NONE;
        }
        if (last < first || last - first + 1 > 40) {
            return NONE;
        }
        int is = 1;
        for (int m = 24 * first; m < 24 * last + 24; m++) {
            is = serve(one, from, to, m) > serve(other, from, to, m) ? 0 : is;
        }
        return is;
    }

    /** Rows of sent, served, way, a row a stage, till NEVER. */
    private List<int[]> run(int chain, int begun, boolean quick) {
        List<int[]> rows = new ArrayList<>();
        int day = begun;
        for (Stage s : chains.get(chain)) {
            int sent = s.work ? s.delay == 0 ? day : walk(s.from, day, s.delay) : day + s.delay;
            if (sent == NONE || sent > 3999) {
                return rows;
            }
            int local = 24 * sent + s.hour;
            int way = quick ? quickest(s.from, s.to, local) : s.way;
            int servedOn = way == NONE ? NEVER : serve(way, s.from, s.to, local);
            rows.add(new int[] {sent, servedOn, way});
            if (servedOn == NEVER) {
                return rows;
            }
            day = servedOn;
        }
        return rows;
    }

    private int endOf(int chain, int begun, boolean quick) {
        List<int[]> rows = run(chain, begun, quick);
        return rows.size() == chains.get(chain).size() ? rows.get(rows.size() - 1)[1] : NEVER;
    }

    public int ends(int chain, int day) {
        return isChain(chain) && isDay(day) ? told(endOf(chain, day, false)) : -2;
    }

    public int stage(int chain, int day, int k, int what) {
        if (!isChain(chain) || !isDay(day) || k < 0 || k >= chains.get(chain).size() || what < 0 || what > 1) {
            return -2;
        }
        List<int[]> rows = run(chain, day, false);
        return k < rows.size() ? told(rows.get(k)[what]) : NONE;
    }

    public int quick(int chain, int begun, int k) {
        if (!isChain(chain) || !isDay(begun) || k < -1 || k >= chains.get(chain).size()) {
            return -2;
        }
        List<int[]> rows = run(chain, begun, true);
        if (k == NONE) {
            return told(endOf(chain, begun, true));
        }
        return k < rows.size() ? rows.get(k)[2] : NONE;
    }

    public int race(int one, int other, int first, int last, int what) {
        if (!isChain(one) || !isChain(other) || !isDay(first) || !isDay(last) || what < 0 || what > 2) {
            return NONE;
        }
        if (last < first || last - first + 1 > 100) {
            return NONE;
        }
        int[] n = new int[3];
        for (int d = first; d <= last; d++) {
            int a = endOf(one, d, false);
            int b = endOf(other, d, false);
            n[a < b ? 0 : a == b ? 1 : 2]++;
        }
        return n[what];
    }

    public int last(int chain, int day) {
        if (!isChain(chain) || !isDay(day)) {
            return -2;
        }
        for (int d = 3999; d >= 0; d--) {
            if (endOf(chain, d, false) <= day) {
                return d;
            }
        }
        return NONE;
    }

    public int slack(int chain, int begun, int day) {
        int found = isDay(begun) ? last(chain, day) : NONE;
        return found < 0 ? HIDDEN : found - begun;
    }

    public int cost(int chain, int begun, int land, int day) {
        if (!isChain(chain) || !isDay(begun) || !land01(land) || !lands[land].holidays.contains(day)) {
            return HIDDEN;
        }
        int with = endOf(chain, begun, false);
        lands[land].holidays.remove(day);
        int without = endOf(chain, begun, false);
        lands[land].holidays.add(day);
        return with - without;
    }

    public int dearest(int chain, int begun, int what) {
        if (!isChain(chain) || !isDay(begun) || what < 0 || what > 2 || endOf(chain, begun, false) == NEVER) {
            return -2;
        }
        int[] best = {NONE, NONE, 0};
        for (int day = 0; day < 4000; day++) {
            for (int land = 0; land < 2; land++) {
                int c = cost(chain, begun, land, day);
                if (c > best[2]) {
                    best = new int[] {land, day, c};
                }
            }
        }
        return best[2] == 0 ? NONE : best[what];
    }

    private int refuse(int why) {
        refused[why]++;
        return NONE;
    }

    private void remember() {
        acts.addLast(new Kept(new ArrayList<>(notices), clock));
        if (acts.size() > 12) {
            acts.removeFirst();
        }
    }

    public int send(int way, int from, int to, int term) {
        if (!isWay(way)) {
            return refuse(0);
        }
        if (!land01(from) || !land01(to) || term < -1 || term > 3999) {
            return refuse(1);
        }
        if (notices.size() == 12) {
            return refuse(2);
        }
        int day = serve(ways.get(way), from, to, clock, ways.get(way).size());
        if (day == NEVER) {
            return refuse(3);
        }
        remember();
        Notice n = new Notice();
        n.way = way;
        n.from = from;
        n.to = to;
        n.sent = clock;
        n.served = day;
        n.term = term;
        n.land = endLand;
        notices.add(n);
        return notices.size() - 1;
    }

    private int state(Notice n) {
        int today = (clock + lands[n.land].zone + 240) / 24 - 10;
        boolean is = today >= n.served;
        if (is) {
            return n.term == NONE || n.served <= n.term ? 1 : 2;
        }
        return n.term != NONE && n.term < today ? 3 : 0;
    }

    public int withdraw(int notice) {
        if (notice < 0 || notice >= notices.size()) {
            return refuse(0);
        }
        if (state(notices.get(notice)) % 3 != 0) {
            return refuse(3);
        }
        remember();
        notices.remove(notice);
        return notices.size();
    }

    public int pass(int hours) {
        if (hours < 1 || hours > 9999 || clock + hours > 95999) {
            return refuse(1);
        }
        remember();
        clock += hours;
        return clock;
    }

    public int notice(int notice, int what) {
        if (notice < 0 || notice >= notices.size() || what < 0 || what > 7) {
            throw new NoSuchElementException();
        }
        Notice n = notices.get(notice);
        return new int[] {n.way, n.from, n.to, n.sent, n.served, n.term, state(n), n.land}[what];
    }

    public int due(int n) {
        List<Integer> order = new ArrayList<>();
        for (int i = 0; i < notices.size(); i++) {
            order.add(i);
        }
        order.sort((a, b) -> notices.get(a).served - notices.get(b).served);
        return n >= 0 && n < order.size() ? order.get(n) : NONE;
    }

    public int late(int what) {
        int sum = 0;
        int most = 0;
        for (Notice n : notices) {
            if (state(n) == 2) {
                sum += n.served - n.term;
                most = Math.max(most, n.served - n.term);
            }
        }
        return what == 0 ? sum : what == 1 ? most : NONE;
    }

    public int now(int what) {
        int[] states = new int[4];
        int next = NONE;
        for (int i = 0; i < notices.size(); i++) {
            int state = state(notices.get(i));
            states[state]++;
            boolean going = state == 0 || state == 3;
            if (going && (next == NONE || notices.get(i).served < notices.get(next).served)) {
                next = i;
            }
        }
        int wayBits = 0;
        for (int w = 0; w < 8; w++) {
            wayBits += isWay(w) ? 1 << w : 0;
        }
        int chainBits = 0;
        for (int c = 0; c < 6; c++) {
            chainBits += isChain(c) ? 1 << c : 0;
        }
        int[] all = {clock, notices.size(), states[0], states[1], states[2], states[3], next, wayBits, chainBits};
        return what >= 0 && what < all.length ? all[what] : NONE;
    }

    public int undo() {
        if (acts.isEmpty()) {
            return NONE;
        }
        Kept was = acts.removeLast();
        notices = new ArrayList<>(was.notices);
        clock = was.clock;
        return acts.size();
    }

    public int image() {
        imageKept = new Kept(new ArrayList<>(notices), clock);
        return clock;
    }

    public int back() {
        if (imageKept == null) {
            return NONE;
        }
        notices = new ArrayList<>(imageKept.notices);
        clock = imageKept.clock;
        acts.clear();
        return clock;
    }

    public int written(int way, int k) {
        if (!isWay(way)) {
            return NONE;
        }
        List<String> words = new ArrayList<>();
        for (Step s : ways.get(way)) {
            words.add(s.n == NONE ? s.word : s.word + " " + s.n);
        }
        String text = String.join(" ", words);
        return k == NONE ? text.length() : k >= 0 && k < text.length() ? text.charAt(k) : NONE;
    }

    public int status(int what) {
        return what >= 0 && what <= 3 ? refused[what] : NONE;
    }

    public int most(int day, int what) {
        if (!isDay(day) || what < 0 || what > 4) {
            return NONE;
        }
        StringBuilder row = new StringBuilder();
        for (int d = day; d < day + 60 && d < 4000; d++) {
            boolean zero = works(0, d);
            boolean one = works(1, d);
            boolean[] marks = {zero, one, zero && one, zero ^ one, !zero && !one};
            row.append(marks[what] ? 'x' : ' ');
        }
        int best = 0;
        int all = 0;
        for (String run : row.toString().split(" ")) {
            best = Math.max(best, run.length());
            all += run.length();
        }
        return what == 3 ? all : best;
    }

    public int count(int what) {
        return what == 0 ? tape.length() : what == 1 ? acts.size() : NONE;
    }
}
