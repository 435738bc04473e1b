/**
 * The edges of ways (promises 16 to 22 and 41, what Terms say of STEPS), each sentence of the document by a test of its
 * own that bears the sentence as its name.
 */
public final class WayEdgesTest {
    private static final int NONE = NoticeDesk.NONE;
    private static final int NO_SUCH = -2;
    private static final int LEAST = Integer.MIN_VALUE;
    private static final int MOST = Integer.MAX_VALUE;
    private static final int LAST = 95999;
    private static final int[] NO_DAYS = {-1, 4000, LEAST, MOST};
    private static final int[] NO_LANDS = {-1, 2, LEAST, MOST};
    private static final int[] NO_MOMENTS = {-1, 96000, LEAST, MOST};
    // WAY 7 is never told in these tests.
    private static final int[] NO_WAYS = {7, 8, -1, LEAST, MOST};
    private static final Check CHECK = new Check();

    private WayEdgesTest() { }

    public static void main(String[] args) {
        steps();
        lands();
        never();
        servedAndStep();
        safe();
        within();
        edges();
        fastest();
        neverLater();
        written();
        CHECK.close();
    }

    private static void due(String call, long got, long want) {
        CHECK.due(call, got, want);
    }

    private static int at(int day, int hour) {
        return 24 * day + hour;
    }

    /** Where a way leads that goes in LAND 0 alone: pairs of a moment and the one behind its last step. */
    private static void leads(String land, String way, int... pairs) {
        NoticeDesk x = new NoticeDesk();
        Check.land(x, 0, land);
        int size = Check.way(x, 0, way);
        for (int i = 0; i < pairs.length; i += 2) {
            String call = way + " from " + pairs[i];
            int want = pairs[i + 1];
            due(call + ", served", x.served(0, 0, 1, pairs[i]), want == NONE ? NONE : want / 24);
            due(call + ", the day", x.step(0, 0, 1, pairs[i], size - 1, 0), want == NONE ? NONE : want / 24);
            due(call + ", the hour", x.step(0, 0, 1, pairs[i], size - 1, 1), want == NONE ? NONE : want % 24);
            due(call + ", the land", x.step(0, 0, 1, pairs[i], size - 1, 2), want == NONE ? NONE : 0);
        }
    }

    // ---- STEPS

    private static void steps() {
        officeOpen();
        officeElse();
        hoursAndDays();
        workFromWorkday();
        workElse();
        roll();
        back();
        beginAndEnd();
    }

    private static void officeOpen() {
        CHECK.part("Terms: office: a WORKDAY, its hour below the one to which it is open: that, but not ahead of the first");
        leads("", "office", 0, 9, 8, 9, 9, 9, 10, 10, 16, 16, at(4, 16), at(4, 16), at(3999, 0), at(3999, 9),
            at(3999, 16), at(3999, 16));
        leads("open 0 24", "office", 0, 0, 23, 23, at(4, 23), at(4, 23));
        leads("open 23 24", "office", 0, 23, 22, 23, 23, 23);
        leads("open 0 1", "office", 0, 0, at(3999, 0), at(3999, 0));
    }

    private static void officeElse() {
        CHECK.part("Terms: office: else the first WORKDAY behind, at that hour");
        leads("", "office", 17, at(1, 9), 23, at(1, 9), at(4, 17), at(7, 9), at(5, 0), at(7, 9), at(5, 10), at(7, 9),
            at(6, 23), at(7, 9), at(3996, 5), at(3997, 9));
        leads("open 0 1;once 7", "office", 1, at(1, 0), at(4, 1), at(8, 0), at(7, 0), at(8, 0));
        leads("rest 0 1 2 3 4 5", "office", 0, at(6, 9), at(6, 17), at(13, 9));
    }

    private static void hoursAndDays() {
        CHECK.part("Terms: hours N, days N: so many hours, 24 times so many, later");
        leads("", "hours 0", 0, 0, LAST, LAST);
        leads("", "hours 99", 0, 99, LAST - 99, LAST);
        leads("", "hours 1", 23, 24, at(5, 23), at(6, 0));
        leads("", "days 0", 0, 0, LAST, LAST);
        leads("", "days 99", 5, at(99, 5), at(3900, 23), LAST);
    }

    private static void workFromWorkday() {
        CHECK.part("Terms: work N: the N-th WORKDAY behind its DAY, at the same hour");
        leads("", "work 1", 0, at(1, 0), 23, at(1, 23), at(4, 5), at(7, 5), at(3998, 3), at(3999, 3));
        leads("", "work 60", 0, at(84, 0), at(4, 23), at(88, 23));
        leads("once 7", "work 2", at(3, 0), at(8, 0), at(4, 0), at(9, 0));
    }

    private static void workElse() {
        CHECK.part("Terms: where its DAY is no WORKDAY, as from hour 23 of the last WORKDAY ahead of it");
        leads("", "work 1", at(5, 0), at(7, 23), at(6, 23), at(7, 23), at(3996, 12), at(3997, 23));
        leads("once 7;once 8", "work 1", at(7, 4), at(9, 23), at(8, 4), at(9, 23), at(5, 4), at(9, 23));
        leads("", "work 60", at(6, 1), at(88, 23));
        leads("rest 1", "work 1", at(1, 3), at(2, 23), at(0, 3), at(2, 3));
    }

    private static void roll() {
        CHECK.part("Terms: roll: if its DAY is no WORKDAY: hour 0 of the first one behind");
        leads("once 7;once 0", "roll", at(5, 0), at(8, 0), at(6, 23), at(8, 0), at(7, 5), at(8, 0), at(8, 5), at(8, 5),
            at(0, 9), at(1, 0), at(4, 23), at(4, 23), at(3996, 1), at(3997, 0), LAST, LAST);
    }

    private static void back() {
        CHECK.part("Terms: back: if it is none: hour 23 of the last one ahead");
        leads("once 7;once 3999", "back", at(5, 0), at(4, 23), at(6, 23), at(4, 23), at(7, 5), at(4, 23), at(8, 5), at(8, 5),
            0, 0, at(3999, 4), at(3998, 23));
    }

    private static void beginAndEnd() {
        CHECK.part("Terms: begin: hour 0 of its DAY; end: hour 23");
        leads("", "begin", 0, 0, 23, 0, 24, 24, at(5, 9), at(5, 0), LAST, at(3999, 0));
        leads("", "end", 0, 23, 23, 23, 24, 47, at(5, 9), at(5, 23), LAST, LAST, at(3999, 0), LAST);
    }

    // ---- the LAND that is looked at

    private static void lands() {
        hereTillThere();
        theyMayBeOne();
        dayInTheEnd();
    }

    private static void hereTillThere() {
        CHECK.part("Terms: by the LAND that is looked at (here, till there or here is said)");
        // LAND 0 works on 0 alone, LAND 1 on 3 alone.
        NoticeDesk x = Check.desk("rest 1 2 3 4 5 6", "rest 0 1 2 4 5 6", "roll", "there roll", "there roll here roll",
            "there there roll", "here roll there roll", "there here roll");
        int[] due = {7, 3, 7, 3, 10, 7};
        int[] dueBack = {3, 7, 10, 7, 7, 3};
        for (int way = 0; way < due.length; way++) {
            due("WAY " + way + " from 0 to 1", x.served(way, 0, 1, at(1, 5)), due[way]);
            due("WAY " + way + " from 1 to 0", x.served(way, 1, 0, at(1, 5)), dueBack[way]);
        }
        int[] looked = {1, 1, 0, 0};
        for (int k = 0; k < 4; k++) {
            due("LAND behind STEP " + k, x.step(2, 0, 1, at(1, 5), k, 2), looked[k]);
        }
    }

    private static void theyMayBeOne() {
        CHECK.part("Terms: from a LAND to a LAND (they may be one)");
        NoticeDesk x = Check.desk("zone 3;rest 0", "zone - 3;rest 1", "there roll here");
        due("from 0 to 0", x.served(0, 0, 0, at(0, 5)), 1);
        due("from 1 to 1", x.served(0, 1, 1, at(1, 5)), 2);
        for (int land = 0; land < 2; land++) {
            due("the hour", x.step(0, land, land, at(land, 5), 0, 1), 5);
            due("the land", x.step(0, land, land, at(land, 5), 0, 2), land);
        }
    }

    private static void dayInTheEnd() {
        CHECK.part("Terms: SERVED: the DAY by the LAND that is looked at in the end");
        NoticeDesk x = Check.desk("zone 12", "zone - 12", "there", "there here", "end there", "begin there");
        due("a day less", x.served(0, 0, 1, at(5, 0)), 4);
        due("a day more", x.served(0, 1, 0, at(5, 0)), 6);
        due("here again", x.served(1, 0, 1, at(5, 0)), 5);
        due("end, then there", x.served(2, 0, 1, at(5, 0)), 4);
        due("begin, then there", x.served(3, 1, 0, at(5, 23)), 6);
        Check.land(x, 0, "zone 1");
        Check.land(x, 1, "");
        due("an hour less at midnight", x.served(0, 0, 1, at(5, 0)), 4);
        due("its hour", x.step(0, 0, 1, at(5, 0), 0, 1), 23);
        due("an hour less behind it", x.served(0, 0, 1, at(5, 1)), 5);
        due("an hour more", x.served(0, 1, 0, at(5, 23)), 6);
        due("its hour", x.step(0, 1, 0, at(5, 23), 0, 1), 0);
    }

    // ---- NEVER

    private static void never() {
        momentAbove();
        momentBelow();
        workdayBehind();
        workdayAhead();
        outOnItsWay();
    }

    private static void momentAbove() {
        CHECK.part("Terms: Where a MOMENT is OUT (above 3999), it is NEVER");
        leads("", "hours 1", LAST, NONE, LAST - 1, LAST);
        leads("", "hours 99", LAST - 98, NONE, LAST, NONE);
        leads("", "days 1", at(3999, 0), NONE, at(3998, 23), LAST);
        leads("", "days 99", at(3901, 0), NONE);
        NoticeDesk x = Check.desk("", "zone 5", "there");
        due("there", x.served(0, 0, 1, LAST - 5), 3999);
        due("there", x.served(0, 0, 1, LAST - 4), NONE);
    }

    private static void momentBelow() {
        CHECK.part("Terms: Where a MOMENT is OUT (below 0), it is NEVER");
        NoticeDesk x = Check.desk("", "zone - 5", "there", "there begin here");
        due("there", x.served(0, 0, 1, 4), NONE);
        due("there", x.served(0, 0, 1, 5), 0);
        due("and back", x.served(0, 1, 0, 0), 0);
        due("hour 0 of DAY 0 there is 19 of DAY -1 here", x.served(1, 1, 0, 0), NONE);
        due("till DAY 0 ends there", x.served(1, 1, 0, 18), NONE);
        due("hour 0 of DAY 1 there is 19 of DAY 0 here", x.served(1, 1, 0, 19), 0);
    }

    private static void workdayBehind() {
        CHECK.part("Terms: Where a WORKDAY that is sought is OUT (above 3999), it is NEVER");
        leads("", "office", at(3999, 17), NONE, LAST, NONE);
        leads("", "work 1", at(3999, 0), NONE, LAST, NONE);
        leads("", "work 2", at(3998, 0), NONE);
        leads("", "work 4", at(3996, 0), NONE, at(3994, 0), NONE, at(3993, 0), at(3999, 0));
        leads("once 3999", "roll", at(3999, 0), NONE, at(3998, 23), at(3998, 23));
        leads("once 3999", "office", at(3999, 0), NONE, at(3998, 17), NONE);
        leads("once 3999", "work 1", at(3999, 0), NONE, at(3998, 0), NONE);
    }

    private static void workdayAhead() {
        CHECK.part("Terms: Where a WORKDAY that is sought is OUT (below 0), it is NEVER");
        leads("rest 0 1", "back", 0, NONE, at(1, 23), NONE, at(2, 0), at(2, 0), at(7, 0), at(6, 23));
        leads("rest 0 1", "work 1", 0, NONE, at(1, 23), NONE, at(2, 0), at(3, 0), at(7, 0), at(9, 23));
        leads("once 0", "work 60", 0, NONE, at(1, 0), at(85, 0));
        leads("once 0", "back", 23, NONE, 24, 24);
    }

    private static void outOnItsWay() {
        CHECK.part("Terms: Where a MOMENT is OUT it is NEVER, whatever comes behind");
        NoticeDesk x = Check.desk("", "zone - 5", "there here", "there days 9 here", "here there there");
        for (int way = 0; way < 3; way++) {
            due("below", x.served(way, 0, 1, 4), NONE);
            due("in", x.served(way, 0, 1, 5), way == 1 ? 9 : 0);
            due("STEP 2 of NEVER", x.step(way, 0, 1, 4, 1, 0), NONE);
        }
        leads("", "days 1 back begin", at(3999, 0), NONE);
        leads("rest 0", "back roll office days 3", 0, NONE);
        leads("rest 2", "roll back", LAST, NONE);
    }

    // ---- promises 16, 17

    private static void servedAndStep() {
        servedNone();
        servedNoSuch();
        stepByThen();
        stepNoSuch();
    }

    private static void servedNone() {
        CHECK.part("16: a MOMENT 0 to 95999");
        NoticeDesk x = Check.desk("zone 12", "zone - 12", "here");
        for (int land = 0; land < 2; land++) {
            due("0 by here is never OUT", x.served(0, land, 1 - land, 0), 0);
            due("95999 neither", x.served(0, land, 1 - land, LAST), 3999);
        }
        CHECK.part("16: NONE: NEVER");
        Check.way(x, 0, "there");
        due("below 0 there", x.served(0, 0, 1, 23), NONE);
        due("above 3999 there", x.served(0, 1, 0, LAST - 23), NONE);
    }

    private static void servedNoSuch() {
        CHECK.part("16: -2: no such ones");
        NoticeDesk x = Check.desk("", "", "days 99");
        for (int way : NO_WAYS) {
            due("way " + way, x.served(way, 0, 0, 0), NO_SUCH);
        }
        for (int land : NO_LANDS) {
            due("from " + land, x.served(0, land, 0, 0), NO_SUCH);
            due("to " + land, x.served(0, 0, land, 0), NO_SUCH);
            due("even where it is NEVER", x.served(0, 0, land, LAST), NO_SUCH);
        }
        for (int moment : NO_MOMENTS) {
            due("moment " + moment, x.served(0, 0, 0, moment), NO_SUCH);
        }
    }

    private static void stepByThen() {
        CHECK.part("17: NONE: NEVER by then");
        NoticeDesk x = Check.desk("", "", "end days 1 begin");
        int[][] due = {{3999, 23, 0}, {NONE, NONE, NONE}, {NONE, NONE, NONE}};
        for (int k = 0; k < 3; k++) {
            for (int what = 0; what < 3; what++) {
                due("STEP " + k + " " + what, x.step(0, 0, 1, at(3999, 5), k, what), due[k][what]);
            }
        }
        due("served", x.served(0, 0, 1, at(3999, 5)), NONE);
        due("not NEVER", x.step(0, 0, 1, at(3998, 5), 2, 0), 3999);
    }

    private static void stepNoSuch() {
        CHECK.part("17: -2: no such ones");
        NoticeDesk x = Check.desk("", "", "end days 99 begin", "end ".repeat(12));
        due("STEP 11", x.step(1, 0, 0, 0, 11, 1), 23);
        due("STEP 12", x.step(1, 0, 0, 0, 12, 1), NO_SUCH);
        for (int k : new int[] {-1, 3, 12, LEAST, MOST}) {
            due("STEP " + k, x.step(0, 0, 0, 0, k, 0), NO_SUCH);
            due("STEP " + k + " where it is NEVER", x.step(0, 0, 0, LAST, k, 0), NO_SUCH);
        }
        for (int what : new int[] {-1, 3, LEAST, MOST}) {
            due("what " + what, x.step(0, 0, 0, 0, 0, what), NO_SUCH);
            due("what " + what + " where it is NEVER", x.step(0, 0, 0, LAST, 2, what), NO_SUCH);
        }
        for (int way : NO_WAYS) {
            due("way " + way, x.step(way, 0, 0, 0, 0, 0), NO_SUCH);
        }
        for (int land : NO_LANDS) {
            due("from " + land, x.step(0, land, 0, 0, 0, 0), NO_SUCH);
            due("to " + land, x.step(0, 0, land, 0, 0, 0), NO_SUCH);
        }
        for (int moment : NO_MOMENTS) {
            due("moment " + moment, x.step(0, 0, 0, moment, 0, 0), NO_SUCH);
        }
    }

    // ---- promise 18

    private static void safe() {
        safeLastMoment();
        safeNone();
        safeBelow();
        safeNoSuch();
    }

    private static void safeLastMoment() {
        CHECK.part("Terms: SAFE for a DAY: the last MOMENT, 0 to 95999, SERVED on that DAY or ahead of it");
        NoticeDesk x = Check.desk("", "zone - 12", "here", "office", "days 99", "there", "begin", "back");
        due("hour 23 of the DAY", x.safe(0, 0, 0, 0), 23);
        due("the very last one", x.safe(0, 0, 0, 3999), LAST);
        due("ahead of the last one", x.safe(0, 0, 0, 3998), LAST - 24);
        due("the office closes", x.safe(1, 0, 0, 4), at(4, 16));
        due("of rest: the day ahead of it", x.safe(1, 0, 0, 6), at(4, 16));
        due("the last office hour of all", x.safe(1, 0, 0, 3999), at(3999, 16));
        due("99 days", x.safe(2, 0, 0, 99), 23);
        due("99 days", x.safe(2, 0, 0, 3999), at(3900, 23));
        due("by the clock of the LAND from which", x.safe(3, 0, 1, 0), 35);
        due("there all is SERVED by then", x.safe(3, 0, 1, 3999), LAST);
        due("by the clock of the LAND from which", x.safe(3, 1, 0, 0), 11);
        due("the last one", x.safe(3, 1, 0, 3999), LAST - 12);
        due("back over rest", x.safe(5, 0, 0, 4), at(6, 23));
    }

    private static void safeNone() {
        CHECK.part("18: NONE: none");
        NoticeDesk x = Check.desk("", "zone 12", "days 99", "there hours 12", "office hours 15", "work 60");
        due("DAY 98", x.safe(0, 0, 0, 98), NONE);
        due("DAY 0", x.safe(0, 0, 0, 0), NONE);
        due("DAY 0 there", x.safe(1, 0, 1, 0), NONE);
        due("DAY 1 there", x.safe(1, 0, 1, 1), 23);
        due("9 and 15 is DAY 1", x.safe(2, 0, 0, 0), NONE);
        due("DAY 83", x.safe(3, 0, 0, 83), NONE);
        due("DAY 84", x.safe(3, 0, 0, 84), 23);
    }

    private static void safeBelow() {
        CHECK.part("Terms: what comes below DAY 0 on its way is NEVER");
        NoticeDesk x = Check.desk("rest 0 1", "zone - 5", "there", "back", "work 1", "there begin here");
        due("0 to 4 are NEVER, 5 to 28 are DAY 0", x.safe(0, 0, 1, 0), 28);
        due("0 and 1 are NEVER", x.safe(1, 0, 0, 1), NONE);
        due("DAY 2 is the first", x.safe(1, 0, 0, 2), at(2, 23));
        due("0 and 1 are NEVER", x.safe(2, 0, 0, 2), NONE);
        due("DAY 2 comes to 3", x.safe(2, 0, 0, 3), at(2, 23));
        due("all of DAY 0 there", x.safe(3, 0, 1, 0), 28);
    }

    private static void safeNoSuch() {
        CHECK.part("18: -2: no such ones");
        NoticeDesk x = Check.desk("", "", "days 99");
        for (int way : NO_WAYS) {
            due("way " + way, x.safe(way, 0, 0, 0), NO_SUCH);
        }
        for (int land : NO_LANDS) {
            due("from " + land, x.safe(0, land, 0, 0), NO_SUCH);
            due("to " + land, x.safe(0, 0, land, 0), NO_SUCH);
        }
        for (int day : NO_DAYS) {
            due("day " + day, x.safe(0, 0, 0, day), NO_SUCH);
        }
    }

    // ---- promise 19

    private static void within() {
        withinDays();
        withinEnds();
        withinBelow();
        withinNoSuch();
    }

    private static void withinIs(NoticeDesk x, int way, int from, int day, int... due) {
        for (int what = 0; what < 3; what++) {
            due("within " + way + " " + day + " " + what, x.within(way, from, 1 - from, day, what), due[what]);
        }
    }

    private static void withinDays() {
        CHECK.part("19: MOMENTS SENT at which it is SERVED just on a DAY: 0 how many, 1 the first, 2 the last");
        NoticeDesk x = Check.desk("", "zone 1", "here", "office", "there", "work 1 there");
        withinIs(x, 0, 0, 7, 24, at(7, 0), at(7, 23));
        withinIs(x, 1, 0, 7, 72, at(4, 17), at(7, 16));
        withinIs(x, 2, 0, 7, 24, at(6, 23), at(7, 22));
        withinIs(x, 3, 0, 7, 23, at(4, 0), at(4, 22));
        withinIs(x, 3, 0, 8, 72, at(4, 23), at(7, 22));
        CHECK.part("19: NONE without");
        withinIs(x, 1, 0, 5, 0, NONE, NONE);
        withinIs(x, 1, 0, 6, 0, NONE, NONE);
    }

    private static void withinEnds() {
        CHECK.part("19: MOMENTS by here, 0 to 95999");
        NoticeDesk x = Check.desk("", "zone 1", "here", "there", "days 99", "office", "hours 23");
        withinIs(x, 0, 0, 0, 24, 0, 23);
        withinIs(x, 0, 0, 3999, 24, at(3999, 0), LAST);
        withinIs(x, 1, 0, 0, 23, 0, 22);
        withinIs(x, 1, 0, 3999, 24, at(3998, 23), at(3999, 22));
        withinIs(x, 1, 1, 3999, 23, at(3999, 1), LAST);
        withinIs(x, 2, 0, 98, 0, NONE, NONE);
        withinIs(x, 2, 0, 99, 24, 0, 23);
        withinIs(x, 2, 0, 3999, 24, at(3900, 0), at(3900, 23));
        withinIs(x, 3, 0, 0, 17, 0, 16);
        withinIs(x, 3, 0, 3999, 24, at(3998, 17), at(3999, 16));
        withinIs(x, 4, 0, 0, 1, 0, 0);
    }

    private static void withinBelow() {
        CHECK.part("19: SERVED just on a DAY: what is NEVER below DAY 0 is not");
        NoticeDesk x = Check.desk("rest 0 1", "zone - 5", "there", "back", "there days 1 here");
        withinIs(x, 0, 0, 0, 24, 5, 28);
        withinIs(x, 1, 0, 0, 0, NONE, NONE);
        withinIs(x, 1, 0, 1, 0, NONE, NONE);
        withinIs(x, 1, 0, 2, 24, at(2, 0), at(2, 23));
        withinIs(x, 2, 0, 1, 19, 5, 23);
        withinIs(x, 2, 0, 0, 0, NONE, NONE);
    }

    private static void withinNoSuch() {
        CHECK.part("19: -2: no such ones");
        NoticeDesk x = Check.desk("", "", "here");
        for (int way : NO_WAYS) {
            due("way " + way, x.within(way, 0, 0, 0, 0), NO_SUCH);
        }
        for (int land : NO_LANDS) {
            due("from " + land, x.within(0, land, 0, 0, 0), NO_SUCH);
            due("to " + land, x.within(0, 0, land, 0, 0), NO_SUCH);
        }
        for (int day : NO_DAYS) {
            due("day " + day, x.within(0, 0, 0, day, 0), NO_SUCH);
        }
        for (int what : new int[] {-1, 3, LEAST, MOST}) {
            due("what " + what, x.within(0, 0, 0, 0, what), NO_SUCH);
        }
    }

    // ---- promise 20

    private static void edges() {
        edgesLater();
        edgesOfNever();
        edgesNone();
    }

    private static void edgesLater() {
        CHECK.part("Terms: EDGES: hours h so that SENT at h it is SERVED later than SENT an hour ahead");
        NoticeDesk x = Check.desk("open 0 24", "zone 1", "here", "there", "hours 1", "work 1", "back");
        due("hour 0", x.edges(0, 0, 1, 7), 1);
        due("hour 23", x.edges(1, 0, 1, 7), 1 << 23);
        due("hour 23", x.edges(2, 0, 1, 7), 1 << 23);
        due("hour 1 by the other one", x.edges(1, 1, 0, 7), 2);
        due("of rest: alike", x.edges(3, 0, 0, 5), 0);
        due("of rest: alike", x.edges(3, 0, 0, 6), 0);
        due("behind rest", x.edges(3, 0, 0, 7), 1);
        due("back", x.edges(4, 0, 0, 5), 0);
        due("behind rest", x.edges(4, 0, 0, 7), 1);
        CHECK.part("20: hour 0 of DAY 0 is none");
        due("DAY 0", x.edges(0, 0, 1, 0), 0);
        due("DAY 1", x.edges(0, 0, 1, 1), 1);
        due("DAY 0, another hour", x.edges(1, 0, 1, 0), 1 << 23);
    }

    private static void edgesOfNever() {
        CHECK.part("Terms: it is NEVER (above each DAY): an edge to it, none from it");
        NoticeDesk x = Check.desk("", "zone - 5", "office", "days 1", "there", "hours 3", "days 99");
        due("the office closes for good", x.edges(0, 0, 0, 3999), 1 << 17);
        due("from hour 0 on", x.edges(1, 0, 0, 3999), 1);
        due("NEVER and NEVER", x.edges(4, 0, 0, 3999), 0);
        due("NEVER, then DAY 0", x.edges(2, 0, 1, 0), 0);
        due("DAY 0, then DAY 1", x.edges(2, 0, 1, 1), 1 << 5);
        due("DAY 3999, then NEVER", x.edges(2, 1, 0, 3999), 1 << 19);
        due("DAY 3999, then NEVER", x.edges(3, 0, 0, 3999), 1 << 21);
        Check.land(x, 0, "rest 0");
        Check.way(x, 0, "back");
        due("NEVER, then DAY 1", x.edges(0, 0, 0, 1), 0);
        due("DAY 1, then DAY 2", x.edges(0, 0, 0, 2), 1);
    }

    private static void edgesNone() {
        CHECK.part("20: NONE: no such ones");
        NoticeDesk x = Check.desk("", "", "here");
        for (int way : NO_WAYS) {
            due("way " + way, x.edges(way, 0, 0, 1), NONE);
        }
        for (int land : NO_LANDS) {
            due("from " + land, x.edges(0, land, 0, 1), NONE);
            due("to " + land, x.edges(0, 0, land, 1), NONE);
        }
        for (int day : NO_DAYS) {
            due("day " + day, x.edges(0, 0, 0, day), NONE);
        }
    }

    // ---- promise 21

    private static void fastest() {
        fastestOfSeveral();
        fastestNone();
        fastestNoSuch();
    }

    private static void fastestIs(NoticeDesk x, int from, int to, int moment, int way, int day) {
        due("the WAY at " + moment, x.fastest(from, to, moment, 0), way);
        due("the DAY at " + moment, x.fastest(from, to, moment, 1), day);
    }

    private static void fastestOfSeveral() {
        CHECK.part("Terms: FASTEST: the WAY SERVED first (of several the lowest)");
        NoticeDesk x = new NoticeDesk();
        Check.way(x, 7, "days 3");
        fastestIs(x, 0, 0, 0, 7, 3);
        Check.way(x, 5, "days 2");
        fastestIs(x, 0, 0, 0, 5, 2);
        Check.way(x, 6, "days 1");
        fastestIs(x, 0, 0, 0, 6, 1);
        Check.way(x, 2, "days 1");
        fastestIs(x, 0, 0, 0, 2, 1);
        Check.way(x, 0, "work 1");
        fastestIs(x, 0, 0, 0, 0, 1);
        fastestIs(x, 0, 0, at(4, 0), 2, 5);
        fastestIs(x, 0, 0, LAST - 24, 0, 3999);
    }

    private static void fastestNone() {
        CHECK.part("21: NONE: all NEVER, no WAYS");
        NoticeDesk x = new NoticeDesk();
        fastestIs(x, 0, 1, 0, NONE, NONE);
        Check.way(x, 0, "days 1");
        Check.way(x, 7, "hours 30");
        fastestIs(x, 0, 1, at(3999, 0), NONE, NONE);
        fastestIs(x, 0, 1, LAST, NONE, NONE);
        fastestIs(x, 0, 1, at(3998, 17), 0, 3999);
        Check.land(x, 1, "zone - 5");
        Check.way(x, 0, "there");
        CHECK.part("Terms: NEVER (above each DAY): what is NEVER below DAY 0 is not the first");
        fastestIs(x, 0, 1, 4, 7, 1);
        fastestIs(x, 0, 1, 5, 0, 0);
    }

    private static void fastestNoSuch() {
        CHECK.part("21: -2: no such ones");
        NoticeDesk none = new NoticeDesk();
        NoticeDesk x = Check.desk("", "", "here");
        for (NoticeDesk desk : new NoticeDesk[] {none, x}) {
            for (int land : NO_LANDS) {
                due("from " + land, desk.fastest(land, 0, 0, 0), NO_SUCH);
                due("to " + land, desk.fastest(0, land, 0, 1), NO_SUCH);
            }
            for (int moment : NO_MOMENTS) {
                due("moment " + moment, desk.fastest(0, 0, moment, 0), NO_SUCH);
            }
            for (int what : new int[] {-1, 2, LEAST, MOST}) {
                due("what " + what, desk.fastest(0, 0, 0, what), NO_SUCH);
            }
        }
    }

    // ---- promise 22

    private static void neverLater() {
        eachHour();
        noLater();
        fortyAtMost();
        neverLaterNone();
    }

    private static void eachHour() {
        CHECK.part("Terms: NEVER LATER: SENT at each hour of each of these it is SERVED no later");
        // By 0 it is DAY 1 from hour 23 on, by 1 it is DAY -1 (NEVER) at hour 0 of DAY 0.
        NoticeDesk x = Check.desk("", "zone - 1", "hours 1", "here", "there", "roll", "back");
        due("the last hour of the only DAY", x.neverLater(0, 1, 0, 0, 5, 5), 0);
        due("the first hour of the only DAY", x.neverLater(1, 2, 0, 1, 5, 5), 0);
        due("the other way round", x.neverLater(1, 0, 0, 0, 5, 5), 1);
        due("the other way round", x.neverLater(2, 1, 0, 1, 5, 5), 1);
        due("rest lies behind the last DAY", x.neverLater(3, 1, 0, 0, 0, 4), 1);
        due("the last DAY is of rest", x.neverLater(3, 1, 0, 0, 0, 5), 0);
        due("the first DAY is of rest", x.neverLater(3, 1, 0, 0, 6, 11), 0);
        due("rest lies ahead of the first DAY", x.neverLater(3, 1, 0, 0, 7, 11), 1);
        due("back is never later", x.neverLater(4, 1, 0, 0, 0, 39), 1);
        due("on the last DAY of all", x.neverLater(0, 1, 0, 0, 3999, 3999), 0);
    }

    private static void noLater() {
        CHECK.part("Terms: it is SERVED no later (NEVER above each DAY)");
        NoticeDesk x = Check.desk("", "zone - 1", "days 1", "days 2", "there", "begin");
        due("alike", x.neverLater(0, 0, 0, 1, 0, 39), 1);
        due("NEVER and NEVER", x.neverLater(1, 0, 0, 1, 3999, 3999), 1);
        due("NEVER and DAY 3999", x.neverLater(1, 0, 0, 1, 3998, 3998), 0);
        due("DAY 3999 and NEVER", x.neverLater(0, 1, 0, 1, 3998, 3998), 1);
        due("NEVER below DAY 0 is later", x.neverLater(2, 3, 0, 1, 0, 0), 0);
        due("on DAY 1 it is not", x.neverLater(2, 3, 0, 1, 1, 1), 1);
        due("later than NEVER is none", x.neverLater(0, 2, 0, 1, 0, 0), 0);
    }

    private static void fortyAtMost() {
        CHECK.part("22: from a DAY (first) to a DAY (last; 40 at most)");
        NoticeDesk x = Check.desk("", "", "here");
        due("1", x.neverLater(0, 0, 0, 0, 0, 0), 1);
        due("40", x.neverLater(0, 0, 0, 0, 0, 39), 1);
        due("40", x.neverLater(0, 0, 0, 0, 3960, 3999), 1);
        due("41", x.neverLater(0, 0, 0, 0, 0, 40), NONE);
        due("41", x.neverLater(0, 0, 0, 0, 3959, 3999), NONE);
        due("all", x.neverLater(0, 0, 0, 0, 0, 3999), NONE);
    }

    private static void neverLaterNone() {
        CHECK.part("22: NONE: no such ones");
        NoticeDesk x = Check.desk("", "", "here");
        due("last ahead of first", x.neverLater(0, 0, 0, 0, 1, 0), NONE);
        due("they wrap around", x.neverLater(0, 0, 0, 0, MOST, LEAST), NONE);
        due("they wrap around", x.neverLater(0, 0, 0, 0, LEAST, MOST), NONE);
        for (int way : NO_WAYS) {
            due("one " + way, x.neverLater(way, 0, 0, 0, 0, 0), NONE);
            due("other " + way, x.neverLater(0, way, 0, 0, 0, 0), NONE);
        }
        for (int land : NO_LANDS) {
            due("from " + land, x.neverLater(0, 0, land, 0, 0, 0), NONE);
            due("to " + land, x.neverLater(0, 0, 0, land, 0, 0), NONE);
        }
        for (int day : NO_DAYS) {
            due("first " + day, x.neverLater(0, 0, 0, 0, day, 3), NONE);
            due("last " + day, x.neverLater(0, 0, 0, 0, 3998, day), NONE);
            due("both " + day, x.neverLater(0, 0, 0, 0, day, day), NONE);
        }
    }

    // ---- promise 41

    private static void written() {
        writtenText();
        writtenNone();
    }

    private static void writtenIs(NoticeDesk x, int way, String text) {
        due("how many", x.written(way, NONE), text.length());
        for (int k = 0; k < text.length(); k++) {
            due("byte " + k + " of " + text, x.written(way, k), text.charAt(k));
        }
        due("behind the last", x.written(way, text.length()), NONE);
    }

    private static void writtenText() {
        CHECK.part("41: The k-th byte of a WAY as a TEXT (one blank between words, NUMBERS; k NONE: how many)");
        NoticeDesk x = new NoticeDesk();
        String[] texts = {"end", "  end  ", "here there office roll back begin end", "hours0", "days 0009work1",
            "  hours  10  days  99  work  60 ", "hours 9 ".repeat(12), "office days 09"};
        String[] due = {"end", "end", "here there office roll back begin end", "hours 0", "days 9 work 1",
            "hours 10 days 99 work 60", "hours 9 ".repeat(11) + "hours 9", "office days 9"};
        for (int i = 0; i < texts.length; i++) {
            Check.way(x, i % 8, texts[i]);
            writtenIs(x, i % 8, due[i]);
        }
        Check.way(x, 0, "hours 99 ".repeat(12));
        writtenIs(x, 0, "hours 99 ".repeat(11) + "hours 99");
        Check.way(x, 0, "here ".repeat(13));
        writtenIs(x, 0, "hours 99 ".repeat(11) + "hours 99");
    }

    private static void writtenNone() {
        CHECK.part("41: NONE: no such ones");
        NoticeDesk x = Check.desk("", "", "end");
        for (int k : new int[] {3, -2, LEAST, MOST}) {
            due("k " + k, x.written(0, k), NONE);
        }
        for (int way : NO_WAYS) {
            due("way " + way, x.written(way, NONE), NONE);
            due("way " + way, x.written(way, 0), NONE);
        }
    }
}
