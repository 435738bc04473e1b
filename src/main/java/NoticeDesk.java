import java.util.Arrays;
import java.util.NoSuchElementException;

/**
 * Consecutive notice between two lands, as ../shared/DOC.md promises it. Every row is made in a constructor and
 * used again, so that no call makes an object.
 */
public final class NoticeDesk {
    public static final int NONE = -1;
    public static final int HIDDEN = -1000000;

    private static final int NO_SUCH = -2;
    private static final int DAYS = 4000;
    private static final int YEAR = 365;
    private static final int WEEK = 7;
    private static final int HOURS = 24;
    private static final int LAST_HOUR = 23;
    private static final int MOMENTS = 96000;

    // NEVER is told in two ways inside: what fell below DAY 0 and what went beyond 3999. So "later sent, never
    // served earlier" holds for all moments, and the last safe one can be sought by halves.
    private static final int BELOW = -1;
    private static final int ABOVE = DAYS;

    private static final int LANDS = 2;
    private static final int WAYS = 8;
    private static final int CHAINS = 6;
    private static final int ALL_STAGES = 5;
    private static final int TAPE_FULL = 300;
    private static final int TAPE_ROOM = 320;

    private static final int DARK_DAYS = 60;
    private static final int COMPARED_DAYS = 40;
    private static final int RACE_DAYS = 100;
    private static final int MOST_DAYS = 60;
    private static final int PASS_MOST = 9999;

    private final Tape tape;
    private final Parts parts;
    private final LandText landText;
    private final int[] told;
    private final Land[] lands;
    private final Way wayDraft;
    private final Way[] ways;
    private final Chain chainDraft;
    private final Chain[] chains;
    private final Trip trip;
    private final Passage passage;
    private final Book book;
    private final Past past;
    private final Book kept;
    private boolean hasImage;
    private final int[] refused;

    public NoticeDesk() {
        tape = new Tape();
        parts = new Parts(tape);
        landText = new LandText();
        told = new int[DAYS];
        lands = new Land[LANDS];
        for (int i = 0; i < LANDS; i++) {
            lands[i] = new Land(landText, told);
        }
        wayDraft = new Way();
        ways = new Way[WAYS];
        for (int i = 0; i < WAYS; i++) {
            ways[i] = new Way();
        }
        chainDraft = new Chain();
        chains = new Chain[CHAINS];
        for (int i = 0; i < CHAINS; i++) {
            chains[i] = new Chain();
        }
        trip = new Trip(lands);
        passage = new Passage(lands, ways, trip);
        book = new Book();
        past = new Past();
        kept = new Book();
        refused = new int[4];
    }

    // ---- the tape, and what it tells

    public int feed(int a, int b, int c, int d, int e) {
        if (tape.length() > TAPE_FULL) {
            return NONE;
        }
        tape.addNumber(a);
        tape.addNumber(b);
        tape.addNumber(c);
        tape.addNumber(d);
        tape.addNumber(e);
        return tape.length();
    }

    public boolean end(int n) {
        return tape.cutTo(n);
    }

    public int fault(int what) {
        switch (what) {
            case 0:
                return faultUnless(landText.read(parts));
            case 1:
                return faultUnless(wayDraft.read(parts));
            case 2:
                return faultUnless(chainDraft.read(parts, ways));
            default:
                return NO_SUCH;
        }
    }

    private int faultUnless(boolean stands) {
        return stands ? NONE : parts.place();
    }

    public int land(int land) {
        if (!isLand(land) || !landText.read(parts)) {
            return NONE;
        }
        lands[land].adopt(landText, told);
        tape.cutTo(0);
        return lands[land].holidays;
    }

    public int way(int way) {
        if (way < 0 || way >= WAYS || !wayDraft.read(parts)) {
            return NONE;
        }
        ways[way].copyFrom(wayDraft);
        tape.cutTo(0);
        return ways[way].size;
    }

    public int chain(int chain) {
        if (chain < 0 || chain >= CHAINS || !chainDraft.read(parts, ways)) {
            return NONE;
        }
        chains[chain].copyFrom(chainDraft);
        tape.cutTo(0);
        return chains[chain].size;
    }

    // ---- calendars and clocks

    public int rule(int land, int what) {
        if (!isLand(land)) {
            return HIDDEN;
        }
        Land of = lands[land];
        switch (what) {
            case 0:
                return of.zone;
            case 1:
                return of.restDays;
            case 2:
                return of.openFrom;
            case 3:
                return of.openTo;
            case 4:
                return of.holidays;
            case 5:
                return of.workdayCount;
            case 6:
                return of.moved ? 1 : 0;
            default:
                return HIDDEN;
        }
    }

    public int day(int land, int day) {
        if (!isLand(land) || !isDay(day)) {
            return NONE;
        }
        if (lands[land].isWorkday(day)) {
            return 0;
        }
        return lands[land].isRest(day) ? 1 : 2;
    }

    public int plus(int land, int day, int n) {
        if (!isLand(land) || !isDay(day)) {
            return NONE;
        }
        Land of = lands[land];
        if (n == 0) {
            return of.isWorkday(day) ? day : NONE;
        }
        int found = n > 0 ? of.workdayBehind(day, n) : of.workdayAhead(day, n);
        return isDay(found) ? found : NONE;
    }

    public int both(int day, int n) {
        if (!isDay(day)) {
            return NONE;
        }
        if (n == 0) {
            return isWorkdayOfBoth(day) ? day : NONE;
        }
        int way = n > 0 ? 1 : -1;
        int left = n;
        for (int d = day + way; d >= 0 && d < DAYS; d += way) {
            if (isWorkdayOfBoth(d)) {
                left -= way;
            }
            if (left == 0) {
                return d;
            }
        }
        return NONE;
    }

    private boolean isWorkdayOfBoth(int day) {
        return lands[0].isWorkday(day) && lands[1].isWorkday(day);
    }

    private boolean isWorkdayOfNone(int day) {
        return !lands[0].isWorkday(day) && !lands[1].isWorkday(day);
    }

    public int open(int day, int what) {
        if (!isDay(day) || what < 0 || what > 3) {
            return NONE;
        }
        int one = openHours(0, day);
        int other = openHours(1, day);
        switch (what) {
            case 0:
                return one;
            case 1:
                return other;
            case 2:
                return one & other;
            default:
                return one | other;
        }
    }

    private int openHours(int land, int day) {
        int bits = 0;
        for (int hour = 0; hour < HOURS; hour++) {
            if (lands[land].isOpenAt(HOURS * day + hour)) {
                bits |= 1 << hour;
            }
        }
        return bits;
    }

    public int dark(int first, int last, int what) {
        if (!isSpan(first, last, DARK_DAYS) || what < 0 || what > 1) {
            return NONE;
        }
        int best = 0;
        int bestFirst = NONE;
        int row = 0;
        for (int moment = HOURS * first; moment < HOURS * (last + 1); moment++) {
            row = isDarkAt(moment) ? row + 1 : 0;
            if (row > best) {
                best = row;
                bestFirst = moment - row + 1;
            }
        }
        return what == 0 ? best : bestFirst;
    }

    private boolean isDarkAt(int moment) {
        return !lands[0].isOpenAt(moment) && !lands[1].isOpenAt(moment);
    }

    public int between(int land, int from, int to) {
        if (!isLand(land) || !isDay(from) || !isDay(to)) {
            return HIDDEN;
        }
        Land of = lands[land];
        if (to < from) {
            return of.workdaysBefore(to) - of.workdaysBefore(from);
        }
        return of.workdaysBefore(to + 1) - of.workdaysBefore(from + 1);
    }

    public int clock(int land, int moment, int other, int n) {
        if (!isLand(land) || !isLand(other) || !isMoment(moment)) {
            return HIDDEN;
        }
        long there = (long) moment - lands[land].zone + n + lands[other].zone;
        return there >= 0 && there < MOMENTS ? (int) there : HIDDEN;
    }

    public int most(int day, int what) {
        if (!isDay(day) || what < 0 || what > 4) {
            return NONE;
        }
        int stop = Math.min(day + MOST_DAYS, DAYS);
        int best = 0;
        int row = 0;
        int all = 0;
        for (int d = day; d < stop; d++) {
            boolean counts = countsForMost(d, what);
            row = counts ? row + 1 : 0;
            all += counts ? 1 : 0;
            best = Math.max(best, row);
        }
        return what == 3 ? all : best;
    }

    private boolean countsForMost(int day, int what) {
        switch (what) {
            case 0:
            case 1:
                return lands[what].isWorkday(day);
            case 2:
                return isWorkdayOfBoth(day);
            case 3:
                return lands[0].isWorkday(day) != lands[1].isWorkday(day);
            default:
                return isWorkdayOfNone(day);
        }
    }

    // ---- ways

    public int served(int way, int from, int to, int moment) {
        if (!isRoute(way, from, to) || !isMoment(moment)) {
            return NO_SUCH;
        }
        return dayOrNone(sentBy(way, from, to, moment));
    }

    public int step(int way, int from, int to, int moment, int k, int what) {
        if (!isRoute(way, from, to) || !isMoment(moment)) {
            return NO_SUCH;
        }
        if (k < 0 || k >= ways[way].size || what < 0 || what > 2) {
            return NO_SUCH;
        }
        int reached = trip.go(ways[way], from, to, moment, k + 1);
        if (!isDay(reached)) {
            return NONE;
        }
        if (what == 0) {
            return reached;
        }
        return what == 1 ? trip.hour() : trip.landLookedAt();
    }

    public int safe(int way, int from, int to, int day) {
        if (!isRoute(way, from, to) || !isDay(day)) {
            return NO_SUCH;
        }
        int found = lastServedBy(way, from, to, day);
        return isMoment(found) && isDay(sentBy(way, from, to, found)) ? found : NONE;
    }

    public int within(int way, int from, int to, int day, int what) {
        if (!isRoute(way, from, to) || !isDay(day) || what < 0 || what > 2) {
            return NO_SUCH;
        }
        int first = lastServedBy(way, from, to, day - 1) + 1;
        int last = lastServedBy(way, from, to, day);
        if (what == 0) {
            return last - first + 1;
        }
        if (last < first) {
            return NONE;
        }
        return what == 1 ? first : last;
    }

    /** The day on which it is served, BELOW or ABOVE; sent by the clock of the land from which. */
    private int sentBy(int way, int from, int to, int moment) {
        return trip.go(ways[way], from, to, moment, ways[way].size);
    }

    /** The last moment by here that comes to the day or ahead of it (fallen below DAY 0 counts as ahead). */
    private int lastServedBy(int way, int from, int to, int day) {
        int found = NONE;
        for (int leap = 1 << 16; leap > 0; leap /= 2) {
            int next = found + leap;
            if (isMoment(next) && sentBy(way, from, to, next) <= day) {
                found = next;
            }
        }
        return found;
    }

    public int edges(int way, int from, int to, int day) {
        if (!isRoute(way, from, to) || !isDay(day)) {
            return NONE;
        }
        int start = HOURS * day;
        int bits = 0;
        int ahead = day == 0 ? ABOVE : lateness(sentBy(way, from, to, start - 1));
        for (int hour = 0; hour < HOURS; hour++) {
            int now = lateness(sentBy(way, from, to, start + hour));
            if (now > ahead) {
                bits |= 1 << hour;
            }
            ahead = now;
        }
        return bits;
    }

    public int fastest(int from, int to, int moment, int what) {
        if (!isLand(from) || !isLand(to) || !isMoment(moment) || what < 0 || what > 1) {
            return NO_SUCH;
        }
        passage.goByFastest(from, to, moment);
        return what == 0 ? passage.wayGone() : dayOrNone(passage.servedDay());
    }

    public int neverLater(int one, int other, int from, int to, int first, int last) {
        if (!isRoute(one, from, to) || !isWay(other) || !isSpan(first, last, COMPARED_DAYS)) {
            return NONE;
        }
        for (int moment = HOURS * first; moment < HOURS * (last + 1); moment++) {
            int mine = lateness(sentBy(one, from, to, moment));
            if (mine > lateness(sentBy(other, from, to, moment))) {
                return 0;
            }
        }
        return 1;
    }

    public int written(int way, int k) {
        if (!isWay(way)) {
            return NONE;
        }
        return k == NONE ? ways[way].textLength() : ways[way].textByte(k);
    }

    // ---- chains

    public int ends(int chain, int day) {
        if (!isChain(chain) || !isDay(day)) {
            return NO_SUCH;
        }
        return dayOrNone(passage.go(chains[chain], day, ALL_STAGES));
    }

    public int stage(int chain, int day, int k, int what) {
        if (!isChain(chain) || !isDay(day) || !isStage(chain, k) || what < 0 || what > 1) {
            return NO_SUCH;
        }
        passage.go(chains[chain], day, k);
        return dayOrNone(what == 0 ? passage.sentDay() : passage.servedDay());
    }

    public int quick(int chain, int begun, int k) {
        if (!isChain(chain) || !isDay(begun)) {
            return NO_SUCH;
        }
        if (k == NONE) {
            return dayOrNone(passage.goQuickly(chains[chain], begun, ALL_STAGES));
        }
        if (!isStage(chain, k)) {
            return NO_SUCH;
        }
        passage.goQuickly(chains[chain], begun, k);
        return passage.wayGone();
    }

    public int race(int one, int other, int first, int last, int what) {
        if (!isChain(one) || !isChain(other) || !isSpan(first, last, RACE_DAYS) || what < 0 || what > 2) {
            return NONE;
        }
        int found = 0;
        for (int day = first; day <= last; day++) {
            int mine = lateness(passage.go(chains[one], day, ALL_STAGES));
            int theirs = lateness(passage.go(chains[other], day, ALL_STAGES));
            if (Integer.compare(mine, theirs) == what - 1) {
                found++;
            }
        }
        return found;
    }

    public int last(int chain, int day) {
        if (!isChain(chain) || !isDay(day)) {
            return NO_SUCH;
        }
        return lastBegun(chain, day);
    }

    private int lastBegun(int chain, int day) {
        int found = NONE;
        int end = BELOW;
        for (int leap = 1 << 11; leap > 0; leap /= 2) {
            int next = found + leap;
            int reached = isDay(next) ? passage.go(chains[chain], next, ALL_STAGES) : ABOVE;
            if (reached <= day) {
                found = next;
                end = reached;
            }
        }
        return isDay(end) ? found : NONE;
    }

    public int slack(int chain, int begun, int day) {
        if (!isChain(chain) || !isDay(begun) || !isDay(day)) {
            return HIDDEN;
        }
        int found = lastBegun(chain, day);
        return found == NONE ? HIDDEN : found - begun;
    }

    public int cost(int chain, int begun, int land, int day) {
        if (!isChain(chain) || !isDay(begun) || !isLand(land) || !isHoliday(land, day)) {
            return HIDDEN;
        }
        return lateness(passage.go(chains[chain], begun, ALL_STAGES)) - endWithout(chain, begun, land, day);
    }

    private int endWithout(int chain, int begun, int land, int day) {
        lands[land].pretendWorkday(day);
        int end = lateness(passage.go(chains[chain], begun, ALL_STAGES));
        lands[land].pretendWorkday(NONE);
        return end;
    }

    public int dearest(int chain, int begun, int what) {
        if (!isChain(chain) || !isDay(begun) || what < 0 || what > 2) {
            return NO_SUCH;
        }
        int end = passage.go(chains[chain], begun, ALL_STAGES);
        if (!isDay(end)) {
            return NO_SUCH;
        }
        // A holiday beyond the days that the chain came by is never looked at: it costs nothing.
        int first = Math.max(trip.lowest(), 0);
        int last = Math.min(trip.highest(), DAYS - 1);
        int bestCost = 0;
        int bestLand = NONE;
        int bestDay = NONE;
        for (int day = first; day <= last; day++) {
            for (int land = 0; land < LANDS; land++) {
                int price = isHoliday(land, day) ? end - endWithout(chain, begun, land, day) : 0;
                if (price > bestCost) {
                    bestCost = price;
                    bestLand = land;
                    bestDay = day;
                }
            }
        }
        if (bestCost == 0) {
            return NONE;
        }
        if (what == 0) {
            return bestLand;
        }
        return what == 1 ? bestDay : bestCost;
    }

    // ---- the book

    public int send(int way, int from, int to, int term) {
        if (!isWay(way)) {
            return refuse(0);
        }
        if (!isLand(from) || !isLand(to) || term < NONE || term >= DAYS) {
            return refuse(1);
        }
        if (book.isFull()) {
            return refuse(2);
        }
        int servedOn = sentBy(way, from, to, book.clock + lands[from].zone);
        if (!isDay(servedOn)) {
            return refuse(3);
        }
        past.remember(book);
        int number = book.size;
        book.add();
        book.put(number, Book.WAY, way);
        book.put(number, Book.FROM, from);
        book.put(number, Book.TO, to);
        book.put(number, Book.SENT, book.clock);
        book.put(number, Book.SERVED, servedOn);
        book.put(number, Book.TERM, term);
        book.put(number, Book.LAND, trip.landLookedAt());
        return number;
    }

    public int withdraw(int notice) {
        if (!isNotice(notice)) {
            return refuse(0);
        }
        if (!isOnItsWay(notice)) {
            return refuse(3);
        }
        past.remember(book);
        book.remove(notice);
        return book.size;
    }

    public int pass(int hours) {
        if (hours < 1 || hours > PASS_MOST || !isMoment(book.clock + hours)) {
            return refuse(1);
        }
        past.remember(book);
        book.clock += hours;
        return book.clock;
    }

    private int refuse(int why) {
        if (why >= 0 && why < refused.length) {
            refused[why]++;
        }
        return NONE;
    }

    public int notice(int notice, int what) throws NoSuchElementException {
        if (!isNotice(notice) || what < 0 || what > Book.LAND) {
            throw new NoSuchElementException("no such notice, no such what");
        }
        return what == Book.STATE ? stateOf(notice) : book.cell(notice, what);
    }

    private int stateOf(int notice) {
        Land by = lands[book.cell(notice, Book.LAND) == 1 ? 1 : 0];
        int today = Math.floorDiv(book.clock + by.zone, HOURS);
        int servedOn = book.cell(notice, Book.SERVED);
        int term = book.cell(notice, Book.TERM);
        if (today >= servedOn) {
            return term == NONE || servedOn <= term ? 1 : 2;
        }
        return term != NONE && today > term ? 3 : 0;
    }

    private boolean isOnItsWay(int notice) {
        int state = stateOf(notice);
        return state == 0 || state == 3;
    }

    public int due(int n) {
        for (int i = 0; i < book.size; i++) {
            if (placeByServed(i) == n) {
                return i;
            }
        }
        return NONE;
    }

    private int placeByServed(int notice) {
        int mine = book.cell(notice, Book.SERVED);
        int ahead = 0;
        for (int i = 0; i < book.size; i++) {
            int theirs = book.cell(i, Book.SERVED);
            if (theirs < mine || theirs == mine && i < notice) {
                ahead++;
            }
        }
        return ahead;
    }

    public int late(int what) {
        if (what < 0 || what > 1) {
            return NONE;
        }
        int sum = 0;
        int worst = 0;
        for (int i = 0; i < book.size; i++) {
            if (stateOf(i) == 2) {
                int by = book.cell(i, Book.SERVED) - book.cell(i, Book.TERM);
                sum += by;
                worst = Math.max(worst, by);
            }
        }
        return what == 0 ? sum : worst;
    }

    public int now(int what) {
        switch (what) {
            case 0:
                return book.clock;
            case 1:
                return book.size;
            case 2:
            case 3:
            case 4:
            case 5:
                return noticesOfState(what - 2);
            case 6:
                return servedNext();
            case 7:
                return waysTold();
            case 8:
                return chainsTold();
            default:
                return NONE;
        }
    }

    private int noticesOfState(int state) {
        int found = 0;
        for (int i = 0; i < book.size; i++) {
            if (stateOf(i) == state) {
                found++;
            }
        }
        return found;
    }

    private int servedNext() {
        int next = NONE;
        int earliest = DAYS;
        for (int i = 0; i < book.size; i++) {
            if (isOnItsWay(i) && book.cell(i, Book.SERVED) < earliest) {
                next = i;
                earliest = book.cell(i, Book.SERVED);
            }
        }
        return next;
    }

    private int waysTold() {
        int bits = 0;
        for (int i = 0; i < WAYS; i++) {
            bits |= isWay(i) ? 1 << i : 0;
        }
        return bits;
    }

    private int chainsTold() {
        int bits = 0;
        for (int i = 0; i < CHAINS; i++) {
            bits |= isChain(i) ? 1 << i : 0;
        }
        return bits;
    }

    public int undo() {
        return past.takeBack(book);
    }

    public int image() {
        kept.copyFrom(book);
        hasImage = true;
        return book.clock;
    }

    public int back() {
        if (!hasImage) {
            return NONE;
        }
        book.copyFrom(kept);
        past.forget();
        return book.clock;
    }

    public int status(int what) {
        return what >= 0 && what < refused.length ? refused[what] : NONE;
    }

    public int count(int what) {
        switch (what) {
            case 0:
                return tape.length();
            case 1:
                return past.size();
            default:
                return NONE;
        }
    }

    // ---- what there is

    private static boolean isLand(int land) {
        return land >= 0 && land < LANDS;
    }

    private static boolean isDay(int day) {
        return day >= 0 && day < DAYS;
    }

    private static boolean isMoment(int moment) {
        return moment >= 0 && moment < MOMENTS;
    }

    private static boolean isSpan(int first, int last, int most) {
        return isDay(first) && isDay(last) && first <= last && last - first < most;
    }

    private boolean isWay(int way) {
        return way >= 0 && way < WAYS && ways[way].size > 0;
    }

    private boolean isRoute(int way, int from, int to) {
        return isWay(way) && isLand(from) && isLand(to);
    }

    private boolean isChain(int chain) {
        return chain >= 0 && chain < CHAINS && chains[chain].size > 0;
    }

    private boolean isStage(int chain, int k) {
        return k >= 0 && k < chains[chain].size;
    }

    private boolean isHoliday(int land, int day) {
        return isDay(day) && !lands[land].isWorkday(day) && !lands[land].isRest(day);
    }

    private boolean isNotice(int notice) {
        return notice >= 0 && notice < book.size;
    }

    private static int dayOrNone(int day) {
        return isDay(day) ? day : NONE;
    }

    /** NEVER, whichever way it came, is above each DAY. */
    private static int lateness(int day) {
        return isDay(day) ? day : ABOVE;
    }

    /** The bytes that were fed. */
    private static final class Tape {
        private final int[] bytes = new int[TAPE_ROOM];
        private int length;

        int length() {
            return length;
        }

        int byteAt(int place) {
            return place >= 0 && place < length ? bytes[place] : 0;
        }

        void addNumber(int number) {
            for (int shift = 24; shift >= 0; shift -= 8) {
                addByte(number >>> shift & 255);
            }
        }

        private void addByte(int value) {
            if (value != 0 && length < bytes.length) {
                bytes[length] = value;
                length++;
            }
        }

        boolean cutTo(int n) {
            if (n < 0 || n > length) {
                return false;
            }
            length = n;
            return true;
        }
    }

    /**
     * The tape, part by part: a word, a number, another byte. What does not fit is not taken, so that the place of
     * the part looked at is the place of the fault.
     */
    private static final class Parts {
        private static final int NOTHING = 0;
        private static final int WORD = 1;
        private static final int NUMBER = 2;
        private static final int SIGN = 3;
        private static final int MOST_DIGITS = 4;
        // Above every bound, so that a number of too many digits is out of bounds.
        private static final int TOO_LONG = 10000;

        private final Tape tape;
        private int place;
        private int stop;
        private int kind;
        private int value;
        private int taken;

        Parts(Tape tape) {
            this.tape = tape;
        }

        void start() {
            stop = 0;
            next();
        }

        void next() {
            place = stop;
            while (place < tape.length() && tape.byteAt(place) == ' ') {
                place++;
            }
            stop = place;
            if (place >= tape.length()) {
                kind = NOTHING;
            } else if (isLetter(tape.byteAt(place))) {
                passWord();
            } else if (isDigit(tape.byteAt(place))) {
                passNumber();
            } else {
                kind = SIGN;
                stop++;
            }
        }

        private void passWord() {
            kind = WORD;
            while (stop < tape.length() && isLetter(tape.byteAt(stop))) {
                stop++;
            }
        }

        private void passNumber() {
            kind = NUMBER;
            value = 0;
            while (stop < tape.length() && isDigit(tape.byteAt(stop))) {
                boolean fits = stop - place < MOST_DIGITS;
                value = fits ? 10 * value + tape.byteAt(stop) - '0' : TOO_LONG;
                stop++;
            }
        }

        private static boolean isLetter(int value) {
            return value >= 'a' && value <= 'z';
        }

        private static boolean isDigit(int value) {
            return value >= '0' && value <= '9';
        }

        int place() {
            return place;
        }

        boolean isNothing() {
            return kind == NOTHING;
        }

        boolean isNumber() {
            return kind == NUMBER;
        }

        boolean isNumberWithin(int low, int high) {
            return kind == NUMBER && value >= low && value <= high;
        }

        boolean isWord(String word) {
            if (kind != WORD || stop - place != word.length()) {
                return false;
            }
            for (int i = 0; i < word.length(); i++) {
                if (tape.byteAt(place + i) != word.charAt(i)) {
                    return false;
                }
            }
            return true;
        }

        boolean isSign(char sign) {
            return kind == SIGN && tape.byteAt(place) == sign;
        }

        boolean takeWord(String word) {
            boolean fits = isWord(word);
            if (fits) {
                next();
            }
            return fits;
        }

        boolean takeSign(char sign) {
            boolean fits = isSign(sign);
            if (fits) {
                next();
            }
            return fits;
        }

        boolean takeNumber(int low, int high) {
            boolean fits = isNumberWithin(low, high);
            if (fits) {
                taken = value;
                next();
            }
            return fits;
        }

        /** The number that was taken last. */
        int taken() {
            return taken;
        }

        /** The number that is looked at. */
        int value() {
            return value;
        }
    }

    /** A land as its text tells it. */
    private static final class LandText {
        private static final int ZONE = 0;
        private static final int REST = 1;
        private static final int OPEN = 2;
        private static final int KEPT = 3;
        private static final int MOVED = 4;
        private static final int ON = 5;
        private static final int FIRST = 6;
        private static final int ONCE = 7;
        private static final int WORDS = 8;
        private static final int MOST_TELLINGS = 12;
        private static final int MOST_REST = 6;

        private final int[] tellings = new int[MOST_TELLINGS];
        private final int[] weekdays = new int[MOST_TELLINGS];
        private final int[] numbers = new int[MOST_TELLINGS];
        private int size;
        private int seen;
        private int zone;
        private int restDays;
        private int openFrom;
        private int openTo;
        private boolean moved;

        LandText() {
            clear();
        }

        private void clear() {
            size = 0;
            seen = 0;
            zone = 0;
            restDays = 1 << 5 | 1 << 6;
            openFrom = 9;
            openTo = 17;
            moved = false;
        }

        private static String wordOf(int kind) {
            switch (kind) {
                case ZONE:
                    return "zone";
                case REST:
                    return "rest";
                case OPEN:
                    return "open";
                case KEPT:
                    return "kept";
                case MOVED:
                    return "moved";
                case ON:
                    return "on";
                case FIRST:
                    return "first";
                default:
                    return "once";
            }
        }

        boolean read(Parts parts) {
            clear();
            parts.start();
            if (parts.isNothing()) {
                return true;
            }
            // Each piece takes bytes of the tape: there are never so many.
            for (int i = 0; i < TAPE_ROOM; i++) {
                if (!readPiece(parts)) {
                    return false;
                }
                if (parts.isNothing()) {
                    return true;
                }
                if (!parts.takeSign(';')) {
                    return false;
                }
            }
            return false;
        }

        private boolean readPiece(Parts parts) {
            int kind = kindHere(parts);
            if (kind == NONE || !mayStand(kind)) {
                return false;
            }
            seen |= 1 << onceBit(kind);
            parts.next();
            switch (kind) {
                case ZONE:
                    return readZone(parts);
                case REST:
                    return readRest(parts);
                case OPEN:
                    return readOpen(parts);
                case KEPT:
                case MOVED:
                    moved = kind == MOVED;
                    return true;
                default:
                    return readTelling(parts, kind);
            }
        }

        private int kindHere(Parts parts) {
            for (int kind = 0; kind < WORDS; kind++) {
                if (parts.isWord(wordOf(kind))) {
                    return kind;
                }
            }
            return NONE;
        }

        private boolean mayStand(int kind) {
            if (kind >= ON) {
                return size < MOST_TELLINGS;
            }
            return (seen >> onceBit(kind) & 1) == 0;
        }

        /** Kept and moved may stand once together: they share a bit. */
        private static int onceBit(int kind) {
            return kind == MOVED ? KEPT : kind;
        }

        private boolean readZone(Parts parts) {
            boolean behind = parts.takeSign('-');
            if (!parts.takeNumber(0, 12)) {
                return false;
            }
            zone = behind ? -parts.taken() : parts.taken();
            return true;
        }

        private boolean readRest(Parts parts) {
            restDays = 0;
            for (int i = 0; i < MOST_REST; i++) {
                if (i > 0 && !parts.isNumber()) {
                    return true;
                }
                boolean again = parts.isNumberWithin(0, WEEK - 1) && (restDays >> parts.value() & 1) == 1;
                if (again || !parts.takeNumber(0, WEEK - 1)) {
                    return false;
                }
                restDays |= 1 << parts.taken();
            }
            return !parts.isNumber();
        }

        private boolean readOpen(Parts parts) {
            if (!parts.takeNumber(0, LAST_HOUR)) {
                return false;
            }
            openFrom = parts.taken();
            if (!parts.takeNumber(openFrom + 1, HOURS)) {
                return false;
            }
            openTo = parts.taken();
            return true;
        }

        private boolean readTelling(Parts parts, int kind) {
            int weekday = 0;
            if (kind == FIRST) {
                if (!parts.takeNumber(0, WEEK - 1)) {
                    return false;
                }
                weekday = parts.taken();
                if (!parts.takeWord("from")) {
                    return false;
                }
            }
            if (!parts.takeNumber(0, highestNumber(kind))) {
                return false;
            }
            return addTelling(kind, weekday, parts.taken());
        }

        private static int highestNumber(int kind) {
            switch (kind) {
                case ON:
                    return YEAR - 1;
                case FIRST:
                    return YEAR - WEEK;
                default:
                    return DAYS - 1;
            }
        }

        private boolean addTelling(int kind, int weekday, int number) {
            if (size >= MOST_TELLINGS) {
                return false;
            }
            tellings[size] = kind;
            weekdays[size] = weekday;
            numbers[size] = number;
            size++;
            return true;
        }

        void markTold(int[] row) {
            for (int i = 0; i < size; i++) {
                if (tellings[i] == ONCE) {
                    mark(row, numbers[i]);
                } else {
                    markEachYear(row, i);
                }
            }
        }

        private void markEachYear(int[] row, int telling) {
            for (int start = 0; start < DAYS; start += YEAR) {
                int day = start + numbers[telling];
                if (tellings[telling] == FIRST) {
                    day += Math.floorMod(weekdays[telling] - day, WEEK);
                }
                mark(row, day);
            }
        }

        private static void mark(int[] row, int day) {
            if (day >= 0 && day < row.length) {
                row[day] = 1;
            }
        }
    }

    /** A land's calendar and clock. */
    private static final class Land {
        // How many workdays lie ahead of each day, and the workdays in a row: so each one is found at once.
        private final int[] before = new int[DAYS + 1];
        private final int[] workdays = new int[DAYS];
        private int workdayCount;
        private int holidays;
        private int zone;
        private int restDays;
        private int openFrom;
        private int openTo;
        private boolean moved;
        private int pretended;

        Land(LandText text, int[] row) {
            adopt(text, row);
        }

        /** Becomes the land that the text tells; the row is there to be written on. */
        void adopt(LandText text, int[] row) {
            zone = text.zone;
            restDays = text.restDays;
            openFrom = text.openFrom;
            openTo = text.openTo;
            moved = text.moved;
            pretended = NONE;
            Arrays.fill(row, 0);
            text.markTold(row);
            if (moved) {
                moveOffRest(row);
            }
            setWorkdays(row);
        }

        private void moveOffRest(int[] row) {
            for (int day = 0; day < row.length; day++) {
                if (row[day] == 1 && isRest(day)) {
                    markFirstFree(row, day + 1);
                }
            }
        }

        private void markFirstFree(int[] row, int from) {
            int day = from;
            while (day < row.length && (row[day] == 1 || isRest(day))) {
                day++;
            }
            if (day < row.length) {
                row[day] = 1;
            }
        }

        private void setWorkdays(int[] row) {
            int works = 0;
            int rests = 0;
            for (int day = 0; day < DAYS && day < row.length; day++) {
                before[day] = works;
                if (isRest(day)) {
                    rests++;
                } else if (row[day] == 0) {
                    workdays[works] = day;
                    works++;
                }
            }
            before[DAYS] = works;
            workdayCount = works;
            holidays = DAYS - works - rests;
        }

        /** A holiday that is taken for a workday till NONE is: the rows stay as they are. */
        void pretendWorkday(int day) {
            pretended = day;
        }

        boolean isRest(int day) {
            return (restDays >> day % WEEK & 1) == 1;
        }

        boolean isWorkday(int day) {
            return day >= 0 && day < DAYS && (before[day + 1] > before[day] || day == pretended);
        }

        /** How many workdays there are from DAY 0 up to the one ahead of this one (0 to 4000). */
        int workdaysBefore(int day) {
            if (day < 0 || day > DAYS) {
                return 0;
            }
            boolean oneMore = pretended != NONE && pretended < day;
            return oneMore ? before[day] + 1 : before[day];
        }

        private int workdayAt(long index) {
            if (index < 0) {
                return BELOW;
            }
            long inRow = index;
            if (pretended >= 0 && pretended < DAYS) {
                int place = before[pretended];
                if (index == place) {
                    return pretended;
                }
                inRow = index > place ? index - 1 : index;
            }
            return inRow < workdayCount ? workdays[(int) inRow] : ABOVE;
        }

        /** The n-th workday behind a day; n above 0. */
        int workdayBehind(int day, int n) {
            return workdayAt((long) workdaysBefore(day + 1) + n - 1);
        }

        /** The n-th workday ahead of a day; n below 0. */
        int workdayAhead(int day, int n) {
            return workdayAt((long) workdaysBefore(day) + n);
        }

        boolean isOpenAt(int moment) {
            int local = moment + zone;
            int hour = Math.floorMod(local, HOURS);
            return hour >= openFrom && hour < openTo && isWorkday(Math.floorDiv(local, HOURS));
        }

        int officeFrom(int day, int hour) {
            if (isWorkday(day) && hour < openTo) {
                return HOURS * day + Math.max(hour, openFrom);
            }
            return HOURS * workdayBehind(day, 1) + openFrom;
        }

        int workFrom(int day, int hour, int n) {
            if (isWorkday(day)) {
                return HOURS * workdayBehind(day, n) + hour;
            }
            if (workdayAhead(day, -1) == BELOW) {
                return BELOW;
            }
            return HOURS * workdayBehind(day, n) + LAST_HOUR;
        }

        int rollFrom(int day, int hour) {
            return isWorkday(day) ? HOURS * day + hour : HOURS * workdayBehind(day, 1);
        }

        int backFrom(int day, int hour) {
            return isWorkday(day) ? HOURS * day + hour : HOURS * workdayAhead(day, -1) + LAST_HOUR;
        }
    }

    /** A row of steps. */
    private static final class Way {
        private static final int HERE = 0;
        private static final int THERE = 1;
        private static final int OFFICE = 2;
        private static final int ROLL = 3;
        private static final int BACK = 4;
        private static final int BEGIN = 5;
        private static final int END = 6;
        private static final int FIRST_WITH_NUMBER = 7;
        private static final int HOURS_ON = 7;
        private static final int DAYS_ON = 8;
        private static final int WORK_ON = 9;
        private static final int WORDS = 10;
        private static final int MOST_STEPS = 12;
        // Twelve times "hours 99" with blanks between are 107 bytes.
        private static final int TEXT_ROOM = 108;

        private final int[] kinds = new int[MOST_STEPS];
        private final int[] numbers = new int[MOST_STEPS];
        private final int[] text = new int[TEXT_ROOM];
        private int size;
        private int textSize;

        private static String wordOf(int kind) {
            switch (kind) {
                case HERE:
                    return "here";
                case THERE:
                    return "there";
                case OFFICE:
                    return "office";
                case ROLL:
                    return "roll";
                case BACK:
                    return "back";
                case BEGIN:
                    return "begin";
                case END:
                    return "end";
                case HOURS_ON:
                    return "hours";
                case DAYS_ON:
                    return "days";
                default:
                    return "work";
            }
        }

        boolean read(Parts parts) {
            size = 0;
            parts.start();
            for (int i = 0; i < MOST_STEPS; i++) {
                if (!readStep(parts)) {
                    return false;
                }
                if (parts.isNothing()) {
                    return true;
                }
            }
            return false;
        }

        private boolean readStep(Parts parts) {
            int kind = kindHere(parts);
            if (kind == NONE || size >= MOST_STEPS) {
                return false;
            }
            parts.next();
            int number = 0;
            if (kind >= FIRST_WITH_NUMBER) {
                boolean taken = kind == WORK_ON ? parts.takeNumber(1, 60) : parts.takeNumber(0, 99);
                if (!taken) {
                    return false;
                }
                number = parts.taken();
            }
            kinds[size] = kind;
            numbers[size] = number;
            size++;
            return true;
        }

        private static int kindHere(Parts parts) {
            for (int kind = 0; kind < WORDS; kind++) {
                if (parts.isWord(wordOf(kind))) {
                    return kind;
                }
            }
            return NONE;
        }

        void copyFrom(Way other) {
            System.arraycopy(other.kinds, 0, kinds, 0, MOST_STEPS);
            System.arraycopy(other.numbers, 0, numbers, 0, MOST_STEPS);
            size = other.size;
            writeText();
        }

        private void writeText() {
            textSize = 0;
            for (int i = 0; i < size && i < MOST_STEPS; i++) {
                if (i > 0) {
                    writeByte(' ');
                }
                writeWord(wordOf(kinds[i]));
                if (kinds[i] >= FIRST_WITH_NUMBER) {
                    writeByte(' ');
                    writeNumber(numbers[i]);
                }
            }
        }

        private void writeWord(String word) {
            for (int i = 0; i < word.length(); i++) {
                writeByte(word.charAt(i));
            }
        }

        private void writeNumber(int number) {
            if (number >= 10) {
                writeByte('0' + number / 10);
            }
            writeByte('0' + number % 10);
        }

        private void writeByte(int value) {
            if (textSize < text.length) {
                text[textSize] = value;
                textSize++;
            }
        }

        int textLength() {
            return textSize;
        }

        int textByte(int k) {
            return k >= 0 && k < textSize ? text[k] : NONE;
        }

        int kindAt(int step) {
            return step >= 0 && step < size ? kinds[step] : HERE;
        }

        int numberAt(int step) {
            return step >= 0 && step < size ? numbers[step] : 0;
        }
    }

    /** A notice on its way: one goes at a time. */
    private static final class Trip {
        private final Land[] lands;
        private int here;
        private int there;
        private int looked;
        private int local;
        private int lowest;
        private int highest;

        Trip(Land[] lands) {
            this.lands = lands;
        }

        /** The day to which so many steps lead, BELOW or ABOVE; sent by the clock of the land from which. */
        int go(Way way, int from, int to, int sent, int steps) {
            here = from == 1 ? 1 : 0;
            there = to == 1 ? 1 : 0;
            looked = here;
            local = sent;
            seeDay(dayReached());
            for (int i = 0; i < steps && isMoment(local); i++) {
                take(way.kindAt(i), way.numberAt(i));
                seeDay(dayReached());
            }
            return dayReached();
        }

        private void take(int kind, int number) {
            Land land = lands[looked];
            int day = local / HOURS;
            int hour = local % HOURS;
            switch (kind) {
                case Way.HERE:
                    lookAt(here);
                    break;
                case Way.THERE:
                    lookAt(there);
                    break;
                case Way.OFFICE:
                    local = land.officeFrom(day, hour);
                    break;
                case Way.HOURS_ON:
                    local += number;
                    break;
                case Way.DAYS_ON:
                    local += HOURS * number;
                    break;
                case Way.WORK_ON:
                    local = land.workFrom(day, hour, number);
                    break;
                case Way.ROLL:
                    local = land.rollFrom(day, hour);
                    break;
                case Way.BACK:
                    local = land.backFrom(day, hour);
                    break;
                case Way.BEGIN:
                    local = HOURS * day;
                    break;
                default:
                    local = HOURS * day + LAST_HOUR;
                    break;
            }
        }

        private void lookAt(int land) {
            local += lands[land].zone - lands[looked].zone;
            looked = land;
        }

        private int dayReached() {
            if (local < 0) {
                return BELOW;
            }
            return local < MOMENTS ? local / HOURS : ABOVE;
        }

        int hour() {
            return Math.floorMod(local, HOURS);
        }

        int landLookedAt() {
            return looked;
        }

        void forgetDays() {
            lowest = ABOVE;
            highest = BELOW;
        }

        void seeDay(int day) {
            lowest = Math.min(lowest, day);
            highest = Math.max(highest, day);
        }

        int lowest() {
            return lowest;
        }

        int highest() {
            return highest;
        }
    }

    /** Stages, each a notice and how long it waits. */
    private static final class Chain {
        private static final int MOST_STAGES = 6;

        private final int[] wayOf = new int[MOST_STAGES];
        private final int[] fromOf = new int[MOST_STAGES];
        private final int[] toOf = new int[MOST_STAGES];
        private final int[] waitOf = new int[MOST_STAGES];
        private final int[] waitsWorkdays = new int[MOST_STAGES];
        private final int[] hourOf = new int[MOST_STAGES];
        private int size;

        boolean read(Parts parts, Way[] ways) {
            size = 0;
            parts.start();
            for (int i = 0; i < MOST_STAGES; i++) {
                if (!readStage(parts, ways)) {
                    return false;
                }
                if (parts.isNothing()) {
                    return true;
                }
                if (!parts.takeSign(';')) {
                    return false;
                }
            }
            return false;
        }

        private boolean readStage(Parts parts, Way[] ways) {
            if (size >= MOST_STAGES || !parts.takeWord("by") || !takeWay(parts, ways)) {
                return false;
            }
            wayOf[size] = parts.taken();
            if (!parts.takeWord("from") || !parts.takeNumber(0, LANDS - 1)) {
                return false;
            }
            fromOf[size] = parts.taken();
            if (!parts.takeWord("to") || !parts.takeNumber(0, LANDS - 1)) {
                return false;
            }
            toOf[size] = parts.taken();
            if (!parts.takeWord("wait") || !parts.takeNumber(0, 99)) {
                return false;
            }
            waitOf[size] = parts.taken();
            waitsWorkdays[size] = parts.isWord("work") ? 1 : 0;
            if (!parts.takeWord("work") && !parts.takeWord("days")) {
                return false;
            }
            if (!parts.takeWord("at") || !parts.takeNumber(0, LAST_HOUR)) {
                return false;
            }
            hourOf[size] = parts.taken();
            size++;
            return true;
        }

        private static boolean takeWay(Parts parts, Way[] ways) {
            if (!parts.isNumberWithin(0, ways.length - 1)) {
                return false;
            }
            return ways[parts.value()].size > 0 && parts.takeNumber(0, ways.length - 1);
        }

        void copyFrom(Chain other) {
            System.arraycopy(other.wayOf, 0, wayOf, 0, MOST_STAGES);
            System.arraycopy(other.fromOf, 0, fromOf, 0, MOST_STAGES);
            System.arraycopy(other.toOf, 0, toOf, 0, MOST_STAGES);
            System.arraycopy(other.waitOf, 0, waitOf, 0, MOST_STAGES);
            System.arraycopy(other.waitsWorkdays, 0, waitsWorkdays, 0, MOST_STAGES);
            System.arraycopy(other.hourOf, 0, hourOf, 0, MOST_STAGES);
            size = other.size;
        }
    }

    /** A chain that is gone through, stage by stage. */
    private static final class Passage {
        private final Land[] lands;
        private final Way[] ways;
        private final Trip trip;
        private int sentDay;
        private int sentMoment;
        private int servedDay;
        private int wayGone;

        Passage(Land[] lands, Way[] ways, Trip trip) {
            this.lands = lands;
            this.ways = ways;
            this.trip = trip;
        }

        /** Goes through the stages up to this one: the day on which it is served, BELOW or ABOVE. */
        int go(Chain chain, int begun, int lastStage) {
            begin(begun);
            for (int i = 0; i <= lastStage && i < chain.size; i++) {
                if (setOff(chain, i)) {
                    Way way = ways[chain.wayOf[i]];
                    servedDay = trip.go(way, chain.fromOf[i], chain.toOf[i], sentMoment, way.size);
                }
            }
            return servedDay;
        }

        /** Likewise, each stage by the way that is served first. */
        int goQuickly(Chain chain, int begun, int lastStage) {
            begin(begun);
            for (int i = 0; i <= lastStage && i < chain.size; i++) {
                if (setOff(chain, i)) {
                    goByFastest(chain.fromOf[i], chain.toOf[i], sentMoment);
                }
            }
            return servedDay;
        }

        private void begin(int day) {
            trip.forgetDays();
            trip.seeDay(day);
            servedDay = day;
        }

        /** When the stage's notice is sent; false if it is NEVER. */
        private boolean setOff(Chain chain, int stage) {
            wayGone = NONE;
            sentDay = dayToSend(chain, stage, servedDay);
            sentMoment = HOURS * sentDay + chain.hourOf[stage];
            if (isDay(sentDay)) {
                return true;
            }
            servedDay = sentDay;
            return false;
        }

        /** What is NEVER stays so. */
        private int dayToSend(Chain chain, int stage, int day) {
            int wait = chain.waitOf[stage];
            if (!isDay(day) || wait == 0) {
                return day;
            }
            if (chain.waitsWorkdays[stage] == 0) {
                return Math.min(day + wait, ABOVE);
            }
            return lands[chain.fromOf[stage]].workdayBehind(day, wait);
        }

        /** One notice by the way that is served first; of several the lowest. */
        void goByFastest(int from, int to, int moment) {
            servedDay = ABOVE;
            wayGone = NONE;
            for (int i = 0; i < ways.length; i++) {
                int day = ABOVE;
                if (ways[i].size > 0) {
                    day = trip.go(ways[i], from, to, moment, ways[i].size);
                }
                if (isDay(day) && day < servedDay) {
                    servedDay = day;
                    wayGone = i;
                }
            }
        }

        int sentDay() {
            return sentDay;
        }

        int servedDay() {
            return servedDay;
        }

        int wayGone() {
            return wayGone;
        }
    }

    /** The notices that were sent, and the clock. */
    private static final class Book {
        private static final int MOST = 12;
        private static final int WAY = 0;
        private static final int FROM = 1;
        private static final int TO = 2;
        private static final int SENT = 3;
        private static final int SERVED = 4;
        private static final int TERM = 5;
        // Reckoned anew by the clock: its cell stays empty.
        private static final int STATE = 6;
        private static final int LAND = 7;
        private static final int CELLS = 8;

        private final int[] cells = new int[MOST * CELLS];
        private int size;
        private int clock;

        boolean isFull() {
            return size >= MOST;
        }

        void add() {
            if (size < MOST) {
                size++;
            }
        }

        void remove(int notice) {
            if (notice < 0 || notice >= size) {
                return;
            }
            int behind = size - notice - 1;
            System.arraycopy(cells, (notice + 1) * CELLS, cells, notice * CELLS, behind * CELLS);
            size--;
        }

        void put(int notice, int what, int value) {
            int place = notice * CELLS + what;
            if (place >= 0 && place < cells.length) {
                cells[place] = value;
            }
        }

        int cell(int notice, int what) {
            int place = notice * CELLS + what;
            return place >= 0 && place < cells.length ? cells[place] : NONE;
        }

        void copyFrom(Book other) {
            System.arraycopy(other.cells, 0, cells, 0, cells.length);
            size = other.size;
            clock = other.clock;
        }
    }

    /** The book as it was ahead of each of the latest acts, in a ring. */
    private static final class Past {
        private static final int MOST = 12;

        private final Book[] books = new Book[MOST];
        private int next;
        private int size;

        Past() {
            for (int i = 0; i < MOST; i++) {
                books[i] = new Book();
            }
        }

        void remember(Book book) {
            books[next].copyFrom(book);
            next = (next + 1) % MOST;
            size = Math.min(size + 1, MOST);
        }

        /** Makes the book what it was ahead of the latest act; how many are left, NONE without one. */
        int takeBack(Book book) {
            if (size == 0) {
                return NONE;
            }
            next = (next + MOST - 1) % MOST;
            size--;
            book.copyFrom(books[next]);
            return size;
        }

        void forget() {
            size = 0;
        }

        int size() {
            return size;
        }
    }
}
