/**
 * The edges of calendars, clocks and offices (promises 8 to 15 and 43, what Terms say of LANDS), each sentence of the
 * document by a test of its own that bears the sentence as its name.
 */
public final class LandEdgesTest {
    private static final int NONE = NoticeDesk.NONE;
    private static final int HIDDEN = NoticeDesk.HIDDEN;
    private static final int LEAST = Integer.MIN_VALUE;
    private static final int MOST = Integer.MAX_VALUE;
    private static final int ALL_HOURS = (1 << 24) - 1;
    private static final int[] NO_DAYS = {-1, 4000, LEAST, MOST};
    private static final int[] NO_LANDS = {-1, 2, LEAST, MOST};
    // WORKDAYS 0 to 4, 7 to 11, .. 3990 to 3994, 3997, 3998, 3999; nothing else is told.
    private static final String PLAIN = "";
    private static final Check CHECK = new Check();

    private LandEdgesTest() { }

    public static void main(String[] args) {
        calendars();
        moved();
        rules();
        days();
        plus();
        both();
        open();
        dark();
        between();
        clock();
        most();
        CHECK.close();
    }

    private static void due(String call, long got, long want) {
        CHECK.due(call, got, want);
    }

    // ---- calendars

    private static void calendars() {
        weekdays();
        years();
        lastYear();
        firstFrom();
        holidaysAndRest();
    }

    private static void weekdays() {
        CHECK.part("Terms: WEEKDAY of one: modulo 7 (0 to 6)");
        for (int weekday = 0; weekday < 7; weekday++) {
            NoticeDesk x = Check.desk("rest " + weekday, PLAIN);
            for (int day : new int[] {0, 1, 5, 6, 7, 8, 13, 14, 364, 365, 3996, 3997, 3998, 3999}) {
                due("day " + day, x.day(0, day), day % 7 == weekday ? 1 : 0);
            }
            due("WORKDAYS", x.rule(0, 5), weekday < 3 ? 3428 : 3429);
        }
    }

    private static void years() {
        CHECK.part("Terms: A YEAR has 365 DAYS (YEAR 0 begins with DAY 0); on: that DAY of each YEAR");
        NoticeDesk x = Check.desk("rest 6;on 0", "rest 6;on 364");
        for (int year = 0; year <= 10; year++) {
            int start = 365 * year;
            due("DAY 0 of YEAR " + year, x.day(0, start), start % 7 == 6 ? 1 : 2);
            due("DAY 1 of YEAR " + year, x.day(0, start + 1), (start + 1) % 7 == 6 ? 1 : 0);
            if (year > 0) {
                due("the last DAY ahead of it", x.day(0, start - 1), (start - 1) % 7 == 6 ? 1 : 0);
                due("the last DAY ahead of it, on 364", x.day(1, start - 1), (start - 1) % 7 == 6 ? 1 : 2);
                due("DAY 0, on 364", x.day(1, start), start % 7 == 6 ? 1 : 0);
            }
        }
    }

    private static void lastYear() {
        CHECK.part("Terms: DAYS 0 to 3999, YEAR 10 ends early");
        NoticeDesk x = Check.desk("rest 5;on 349", "rest 5;on 350");
        due("DAY 3999 is DAY 349 of YEAR 10", x.day(0, 3999), 2);
        due("eleven of them, one of rest", x.rule(0, 4), 10);
        due("DAY 4000 is none", x.day(1, 3999), 0);
        due("ten of them, one of rest", x.rule(1, 4), 9);
        Check.land(x, 0, "first 2 from 349");
        due("DAY 3999 has WEEKDAY 2", x.day(0, 3999), 2);
        due("in each YEAR", x.rule(0, 4), 11);
        Check.land(x, 0, "first 3 from 349");
        due("DAY 4000 would be the one", x.day(0, 3999), 0);
        due("in each YEAR but the last", x.rule(0, 4), 10);
    }

    private static void firstFrom() {
        CHECK.part("Terms: each YEAR the first DAY with WEEKDAY D from DAY N of it on");
        for (int weekday = 0; weekday < 7; weekday++) {
            int other = (weekday + 1) % 7;
            NoticeDesk x = Check.desk("rest " + other + ";first " + weekday + " from 0", PLAIN);
            Check.land(x, 1, "rest " + other + ";first " + weekday + " from 358");
            for (int year = 0; year <= 9; year++) {
                for (int k = 0; k < 14; k++) {
                    int day = 365 * year + k;
                    int plain = day % 7 == other ? 1 : 0;
                    due("from 0, DAY " + day, x.day(0, day), k < 7 && day % 7 == weekday ? 2 : plain);
                    day = 365 * year + 351 + k;
                    plain = day % 7 == other ? 1 : 0;
                    due("from 358, DAY " + day, x.day(1, day), k >= 7 && day % 7 == weekday ? 2 : plain);
                }
            }
        }
    }

    private static void holidaysAndRest() {
        CHECK.part("Terms: HOLIDAYS: DAYS told that are no DAYS of rest");
        NoticeDesk x = new NoticeDesk();
        due("of rest alone", Check.land(x, 0, "once 5;once 6;once 12"), 0);
        due("DAY 5", x.day(0, 5), 1);
        due("one told thrice", Check.land(x, 0, "once 7;once 7;first 0 from 7"), 11);
        due("DAY 7", x.day(0, 7), 2);
        due("WORKDAYS: all others", x.rule(0, 5), 2858 - 11);
    }

    // ---- moved

    private static void moved() {
        keptWithout();
        toldOften();
        neitherRestNorHoliday();
        noneBeyond();
        behindRest();
    }

    private static void keptWithout() {
        CHECK.part("Terms: kept | moved (kept without)");
        NoticeDesk x = new NoticeDesk();
        due("without", Check.land(x, 0, "once 5"), 0);
        due("without", x.rule(0, 6), 0);
        due("DAY 7", x.day(0, 7), 0);
        due("kept", Check.land(x, 0, "kept;once 5"), 0);
        due("kept", x.rule(0, 6), 0);
        due("moved", Check.land(x, 0, "moved;once 5"), 1);
        due("moved", x.rule(0, 6), 1);
        due("DAY 7", x.day(0, 7), 2);
        due("moved, none of rest", Check.land(x, 0, "moved;once 4"), 1);
        due("DAY 4", x.day(0, 4), 2);
        due("DAY 7", x.day(0, 7), 0);
        due("without again", Check.land(x, 0, "once 5"), 0);
        due("without again", x.rule(0, 6), 0);
    }

    private static void toldOften() {
        CHECK.part("Terms: for each DAY so told (once, however often it is told)");
        NoticeDesk x = new NoticeDesk();
        due("twice", Check.land(x, 0, "once 5;once 5;moved"), 1);
        due("DAY 7", x.day(0, 7), 2);
        due("DAY 8", x.day(0, 8), 0);
        due("on and once", Check.land(x, 0, "on 5;once 5;moved;once 370"), 11);
        due("DAY 7", x.day(0, 7), 2);
        due("DAY 8", x.day(0, 8), 0);
        due("first and on", Check.land(x, 0, "first 6 from 0;on 6;moved"), 22 - 2);
    }

    private static void neitherRestNorHoliday() {
        CHECK.part("Terms: the first DAY behind it that is neither of rest nor a HOLIDAY by then");
        NoticeDesk x = new NoticeDesk();
        due("three in a row", Check.land(x, 0, "moved;once 5;once 6;once 7"), 3);
        holidaysAre(x, 7, 8, 9);
        due("the told ones stay", Check.land(x, 0, "moved;once 6;once 7;once 8;once 10"), 4);
        holidaysAre(x, 7, 8, 9, 10);
        due("over the next rest", Check.land(x, 0, "moved;once 5;once 6;once 7;once 8;once 9;once 10;once 12"), 7);
        holidaysAre(x, 7, 8, 9, 10, 11, 14, 15);
        due("one that went so far is no told one", Check.land(x, 0, "rest 0 1 2 3 4 5;once 0;once 1;moved"), 2);
        holidaysAre(x, 6, 13);
        due("the ones ahead are not looked at", Check.land(x, 0, "moved;once 4;once 5"), 2);
        holidaysAre(x, 4, 7);
    }

    /** The holidays up to DAY 16 are these. */
    private static void holidaysAre(NoticeDesk x, int... days) {
        for (int day = 0; day <= 16; day++) {
            boolean is = false;
            for (int one : days) {
                is |= one == day;
            }
            CHECK.due("DAY " + day + " is a holiday", x.day(0, day) == 2, is);
        }
    }

    private static void noneBeyond() {
        CHECK.part("Terms: becomes a HOLIDAY (none beyond 3999)");
        NoticeDesk x = new NoticeDesk();
        due("DAY 3999 is of rest", Check.land(x, 0, "rest 2;once 3999;moved"), 0);
        due("DAY 3999", x.day(0, 3999), 1);
        due("two, one has room", Check.land(x, 0, "rest 1;once 3998;once 3999;moved"), 1);
        due("two of rest, one has room", Check.land(x, 0, "rest 0 1;once 3997;once 3998;moved"), 1);
        due("DAY 3999", x.day(0, 3999), 2);
        due("to the last one", Check.land(x, 0, "rest 1;once 3998;moved"), 1);
        due("DAY 3999", x.day(0, 3999), 2);
    }

    private static void behindRest() {
        CHECK.part("Terms: the first DAY behind it: of all rest but one");
        NoticeDesk x = new NoticeDesk();
        due("DAY 7 goes to 13", Check.land(x, 0, "rest 0 1 2 3 4 5;once 7;moved"), 1);
        due("DAY 6", x.day(0, 6), 0);
        due("DAY 13", x.day(0, 13), 2);
        due("DAY 0 is behind nothing", Check.land(x, 0, "rest 0;once 0;moved"), 1);
        due("DAY 0", x.day(0, 0), 1);
        due("DAY 1", x.day(0, 1), 2);
    }

    // ---- promises 8, 9

    private static void rules() {
        CHECK.part("8: HIDDEN: no such ones");
        NoticeDesk x = Check.desk("zone - 12", PLAIN);
        due("what 0", x.rule(0, 0), -12);
        due("what 6", x.rule(1, 6), 0);
        for (int what : new int[] {-1, 7, LEAST, MOST}) {
            due("what " + what, x.rule(0, what), HIDDEN);
        }
        for (int land : NO_LANDS) {
            due("land " + land, x.rule(land, 0), HIDDEN);
        }
        CHECK.part("8: 4 HOLIDAYS, 5 WORKDAYS");
        Check.land(x, 0, "rest 0 1 2 3 4 5;once 6;once 3995");
        due("HOLIDAYS", x.rule(0, 4), 1);
        due("WORKDAYS", x.rule(0, 5), 570);
    }

    private static void days() {
        CHECK.part("9: NONE: no such ones");
        NoticeDesk x = new NoticeDesk();
        due("DAY 0", x.day(0, 0), 0);
        due("DAY 3999", x.day(1, 3999), 0);
        for (int day : NO_DAYS) {
            due("day " + day, x.day(0, day), NONE);
        }
        for (int land : NO_LANDS) {
            due("land " + land, x.day(land, 0), NONE);
        }
    }

    // ---- promises 10, 11

    private static void plus() {
        nthBehind();
        nthAhead();
        itself();
        plusNone();
    }

    private static void nthBehind() {
        CHECK.part("10: The n-th WORKDAY behind a DAY (n above 0)");
        NoticeDesk x = new NoticeDesk();
        int[][] rows = {{0, 1, 1}, {0, 4, 4}, {0, 5, 7}, {3, 1, 4}, {4, 1, 7}, {5, 1, 7}, {6, 1, 7}, {6, 5, 11}, {6, 6, 14},
            {0, 2857, 3999}, {3996, 3, 3999}, {3998, 1, 3999}, {3997, 2, 3999}};
        for (int[] row : rows) {
            due("plus " + row[0] + " " + row[1], x.plus(0, row[0], row[1]), row[2]);
        }
    }

    private static void nthAhead() {
        CHECK.part("10: ahead of it (below 0)");
        NoticeDesk x = new NoticeDesk();
        int[][] rows = {{1, -1, 0}, {4, -4, 0}, {7, -1, 4}, {7, -5, 0}, {6, -1, 4}, {5, -1, 4}, {5, -5, 0}, {14, -6, 4},
            {3999, -2857, 0}, {3999, -2, 3997}, {3999, -3, 3994}};
        for (int[] row : rows) {
            due("plus " + row[0] + " " + row[1], x.plus(1, row[0], row[1]), row[2]);
        }
    }

    private static void itself() {
        CHECK.part("10: n 0: itself, if it is one");
        NoticeDesk x = Check.desk("once 7;once 3999", PLAIN);
        int[][] rows = {{0, 0}, {4, 4}, {5, NONE}, {6, NONE}, {7, NONE}, {8, 8}, {3998, 3998}, {3999, NONE}};
        for (int[] row : rows) {
            due("plus " + row[0], x.plus(0, row[0], 0), row[1]);
        }
    }

    private static void plusNone() {
        CHECK.part("10: NONE: none such, no such ones (n as any int)");
        NoticeDesk x = Check.desk(PLAIN, "rest 0 1 2 3 4 5");
        int[][] none = {{0, 2858}, {3999, 1}, {3998, 2}, {0, -1}, {1, -2}, {7, -6}, {3999, -2858}, {0, MOST}, {0, LEAST},
            {3999, MOST}, {3999, LEAST}, {2000, MOST}, {2000, LEAST}, {2000, LEAST + 1}, {5, 4000}, {5, -4000}};
        for (int[] row : none) {
            due("plus " + row[0] + " " + row[1], x.plus(0, row[0], row[1]), NONE);
        }
        due("ahead of the first one", x.plus(1, 6, -1), NONE);
        due("ahead of the first one", x.plus(1, 5, -1), NONE);
        due("behind the last one", x.plus(1, 3996, 1), NONE);
        due("behind the last one", x.plus(1, 3999, 1), NONE);
        due("the last one", x.plus(1, 3995, 1), 3996);
        for (int n : new int[] {-1, 0, 1}) {
            for (int day : NO_DAYS) {
                due("day " + day, x.plus(0, day, n), NONE);
            }
            for (int land : NO_LANDS) {
                due("land " + land, x.plus(land, 8, n), NONE);
            }
        }
    }

    private static void both() {
        bothNth();
        bothNone();
    }

    private static void bothNth() {
        CHECK.part("11: As plus(), of DAYS that are WORKDAYS of both LANDS");
        // Both work on 0 to 3, 7 to 10, .., 3997, 3998, 3999 of which 3998 is a holiday of one.
        NoticeDesk x = Check.desk("rest 6", "rest 4 5;once 3998");
        int[][] rows = {{0, 0, 0}, {0, 3, 3}, {0, 4, 7}, {3, 1, 7}, {4, 1, 7}, {6, 1, 7}, {7, -1, 3}, {7, -4, 0}, {6, -4, 0},
            {4, -1, 3}, {4, 0, NONE}, {5, 0, NONE}, {6, 0, NONE}, {3998, 0, NONE}, {3997, 1, 3999}, {3999, -1, 3997},
            {3999, 0, 3999}, {0, 4 * 571 + 1, 3999}, {3999, -4 * 571 - 1, 0}};
        for (int[] row : rows) {
            due("both " + row[0] + " " + row[1], x.both(row[0], row[1]), row[2]);
        }
    }

    private static void bothNone() {
        CHECK.part("11: NONE likewise");
        NoticeDesk x = Check.desk("rest 6", "rest 4 5;once 3998");
        int[][] none = {{0, -1}, {1, -2}, {3999, 1}, {3998, 2}, {0, 4 * 571 + 2}, {3999, -4 * 571 - 2}, {0, MOST},
            {0, LEAST}, {3999, MOST}, {3999, LEAST}, {2000, MOST}, {2000, LEAST}};
        for (int[] row : none) {
            due("both " + row[0] + " " + row[1], x.both(row[0], row[1]), NONE);
        }
        for (int n : new int[] {-1, 0, 1}) {
            for (int day : NO_DAYS) {
                due("day " + day, x.both(day, n), NONE);
            }
        }
        NoticeDesk never = Check.desk("rest 6", "rest 0 1 2 3 4 5");
        for (int n : new int[] {-1, 0, 1, MOST, LEAST}) {
            due("no day is one of both", never.both(2000, n), NONE);
            due("no day is one of both", never.both(2001, n), NONE);
        }
    }

    // ---- promises 12, 13

    private static void open() {
        openHours();
        openByZone();
        openOut();
        openOfBoth();
        openNone();
    }

    private static int hoursFromTo(int first, int last) {
        int bits = 0;
        for (int hour = first; hour <= last; hour++) {
            bits |= 1 << hour;
        }
        return bits;
    }

    private static void openHours() {
        CHECK.part("Terms: the hour one from the first to below the second of its hours");
        int[][] hours = {{0, 1}, {0, 24}, {23, 24}, {9, 17}, {11, 12}};
        for (int[] row : hours) {
            NoticeDesk x = Check.desk("open " + row[0] + " " + row[1], PLAIN);
            due("open " + row[0] + " " + row[1], x.open(3, 0), hoursFromTo(row[0], row[1] - 1));
        }
    }

    private static void openByZone() {
        CHECK.part("Terms: OPEN, if by its clock the DAY is a WORKDAY");
        NoticeDesk x = Check.desk("zone 1;open 0 24", "zone - 1;open 0 24");
        due("its midnight comes an hour earlier: rest ends", x.open(6, 0), 1 << 23);
        due("rest begins", x.open(4, 0), ALL_HOURS - (1 << 23));
        due("its midnight comes an hour later: rest ends", x.open(7, 1), ALL_HOURS - 1);
        due("rest begins", x.open(5, 1), 1);
        Check.land(x, 0, "zone 12;open 0 1;once 8");
        due("hour 12 is hour 0 of the next DAY", x.open(0, 0), 1 << 12);
        due("that is a holiday", x.open(7, 0), 0);
        due("its own day matters not", x.open(8, 0), 1 << 12);
    }

    private static void openOut() {
        CHECK.part("Terms: (it isn't, where that is OUT)");
        NoticeDesk x = Check.desk("zone 1;open 0 24", "zone - 1;open 0 24");
        due("above 3999", x.open(3999, 0), ALL_HOURS - (1 << 23));
        due("below 0", x.open(0, 1), ALL_HOURS - 1);
        due("DAY 0 ahead", x.open(0, 0), ALL_HOURS);
        due("DAY 3999 behind", x.open(3999, 1), ALL_HOURS);
        due("one is", x.open(3999, 3), ALL_HOURS);
        due("both are not", x.open(3999, 2), ALL_HOURS - (1 << 23));
        NoticeDesk far = Check.desk("zone 12;open 0 24", "zone - 12;open 0 24");
        due("above 3999", far.open(3999, 0), 4095);
        due("below 0", far.open(0, 1), ALL_HOURS - 4095);
    }

    private static void openOfBoth() {
        CHECK.part("12: 0 the office of LAND 0, 1 of LAND 1, 2 of both, 3 of one of them at least");
        NoticeDesk x = Check.desk("open 8 12", "open 11 15");
        due("0", x.open(0, 0), hoursFromTo(8, 11));
        due("1", x.open(0, 1), hoursFromTo(11, 14));
        due("2", x.open(0, 2), hoursFromTo(11, 11));
        due("3", x.open(0, 3), hoursFromTo(8, 14));
        Check.land(x, 1, "open 12 15");
        due("none of both", x.open(0, 2), 0);
        due("one behind the other", x.open(0, 3), hoursFromTo(8, 14));
    }

    private static void openNone() {
        CHECK.part("12: NONE: no such ones");
        NoticeDesk x = new NoticeDesk();
        due("DAY 3999", x.open(3999, 3), hoursFromTo(9, 16));
        for (int day : NO_DAYS) {
            due("day " + day, x.open(day, 0), NONE);
        }
        for (int what : new int[] {-1, 4, LEAST, MOST}) {
            due("what " + what, x.open(0, what), NONE);
        }
    }

    private static void dark() {
        darkSixty();
        darkRows();
        darkWithout();
        darkOut();
        darkNone();
    }

    private static void darkIs(NoticeDesk x, int first, int last, int many, int moment) {
        due("dark " + first + " " + last + " 0", x.dark(first, last, 0), many);
        due("dark " + first + " " + last + " 1", x.dark(first, last, 1), moment);
    }

    private static void darkSixty() {
        CHECK.part("13: From a DAY to a DAY (last; 60 at most)");
        NoticeDesk x = new NoticeDesk();
        darkIs(x, 0, 0, 9, 0);
        darkIs(x, 0, 59, 64, 113);
        darkIs(x, 3940, 3999, 64, 24 * 3945 + 17);
        due("61", x.dark(0, 60, 0), NONE);
        due("61", x.dark(3939, 3999, 1), NONE);
        due("all", x.dark(0, 3999, 0), NONE);
    }

    private static void darkRows() {
        CHECK.part("13: the longest row of MOMENTS that are DARK (of several rows the first)");
        NoticeDesk x = Check.desk("open 10 14", "open 10 14");
        darkIs(x, 0, 0, 10, 0);
        Check.land(x, 0, "open 9 14");
        darkIs(x, 0, 0, 10, 14);
        Check.land(x, 0, "open 12 13");
        Check.land(x, 1, "open 12 13");
        darkIs(x, 0, 1, 23, 13);
        darkIs(x, 0, 4, 23, 13);
        darkIs(x, 0, 5, 24 * 6 - (24 * 4 + 13), 24 * 4 + 13);
        darkIs(x, 6, 10, 24 + 12, 24 * 6);
        darkIs(x, 7, 7, 12, 24 * 7);
        darkIs(x, 0, 59, 71, 24 * 4 + 13);
        Check.land(x, 1, "open 0 12");
        due("neither is: the hours of both count", x.dark(0, 0, 0), 11);
        due("neither is", x.dark(0, 0, 1), 13);
    }

    private static void darkWithout() {
        CHECK.part("13: 1 the first one (NONE without)");
        NoticeDesk x = Check.desk("open 0 24", "rest 0 1");
        darkIs(x, 0, 4, 0, NONE);
        darkIs(x, 3999, 3999, 0, NONE);
        darkIs(x, 5, 5, 9, 24 * 5);
        Check.land(x, 0, "open 0 12");
        Check.land(x, 1, "open 12 24");
        darkIs(x, 0, 4, 0, NONE);
        Check.land(x, 1, "open 13 24");
        darkIs(x, 0, 4, 1, 12);
    }

    private static void darkOut() {
        CHECK.part("Terms: DARK: neither is (where it is OUT, too)");
        NoticeDesk x = Check.desk("zone 5;open 0 24", "zone 5;open 0 24");
        darkIs(x, 3999, 3999, 5, 24 * 3999 + 19);
        Check.land(x, 0, "zone - 5;open 0 24");
        darkIs(x, 3999, 3999, 0, NONE);
        Check.land(x, 1, "zone - 7;open 0 24");
        darkIs(x, 0, 0, 5, 0);
    }

    private static void darkNone() {
        CHECK.part("13: NONE: no such ones");
        NoticeDesk x = new NoticeDesk();
        due("last ahead of first", x.dark(1, 0, 0), NONE);
        due("last ahead of first", x.dark(3999, 0, 1), NONE);
        for (int day : NO_DAYS) {
            due("first " + day, x.dark(day, 5, 0), NONE);
            due("last " + day, x.dark(3998, day, 0), NONE);
            due("both " + day, x.dark(day, day, 0), NONE);
        }
        due("last 4000", x.dark(4000, 4001, 0), NONE);
        due("first -2", x.dark(-2, -1, 0), NONE);
        due("they wrap around", x.dark(LEAST, MOST, 0), NONE);
        due("they wrap around", x.dark(MOST, LEAST, 0), NONE);
        for (int what : new int[] {-1, 2, LEAST, MOST}) {
            due("what " + what, x.dark(0, 0, what), NONE);
        }
    }

    // ---- promises 14, 15, 43

    private static void between() {
        CHECK.part("14: How many WORKDAYS there are behind a DAY up to another one (that too)");
        NoticeDesk x = new NoticeDesk();
        int[][] rows = {{0, 0, 0}, {5, 5, 0}, {0, 1, 1}, {0, 4, 4}, {0, 5, 4}, {0, 6, 4}, {0, 7, 5}, {4, 7, 1}, {5, 7, 1},
            {6, 7, 1}, {5, 6, 0}, {0, 3999, 2857}, {3998, 3999, 1}, {3994, 3997, 1}, {3999, 3999, 0}};
        for (int[] row : rows) {
            due("between " + row[0] + " " + row[1], x.between(0, row[0], row[1]), row[2]);
        }
        CHECK.part("14: below 0, if it is the earlier one (so many ahead, from that on)");
        rows = new int[][] {{1, 0, -1}, {4, 0, -4}, {5, 0, -5}, {7, 0, -5}, {8, 0, -6}, {7, 4, -1}, {7, 5, 0}, {6, 5, 0},
            {5, 4, -1}, {3999, 0, -2857}, {3999, 3998, -1}, {3999, 3997, -2}, {3997, 3996, 0}};
        for (int[] row : rows) {
            due("between " + row[0] + " " + row[1], x.between(1, row[0], row[1]), row[2]);
        }
        CHECK.part("14: HIDDEN: no such ones");
        for (int day : NO_DAYS) {
            due("from " + day, x.between(0, day, 5), HIDDEN);
            due("to " + day, x.between(0, 5, day), HIDDEN);
        }
        for (int land : NO_LANDS) {
            due("land " + land, x.between(land, 0, 5), HIDDEN);
        }
    }

    private static void clock() {
        clockOfTheOther();
        clockHoursLater();
        clockOut();
        clockHidden();
    }

    private static void clockOfTheOther() {
        CHECK.part("15: A MOMENT told by the clock of a LAND by the clock of the other one");
        NoticeDesk x = Check.desk("zone 12", "zone - 12");
        due("a day less", x.clock(0, 24, 1, 0), 0);
        due("a day more", x.clock(1, 0, 0, 0), 24);
        due("its own", x.clock(0, 95999, 0, 0), 95999);
        due("its own", x.clock(1, 0, 1, 0), 0);
        due("the last one", x.clock(1, 95975, 0, 0), 95999);
    }

    private static void clockHoursLater() {
        CHECK.part("15: so many hours later (n as any int)");
        NoticeDesk x = Check.desk("zone 12", "zone - 12");
        due("a day later", x.clock(0, 0, 1, 24), 0);
        due("the longest", x.clock(0, 0, 0, 95999), 95999);
        due("the longest back", x.clock(0, 95999, 0, -95999), 0);
        due("one more", x.clock(0, 0, 0, 96000), HIDDEN);
        due("one more back", x.clock(0, 95999, 0, -96000), HIDDEN);
        for (int n : new int[] {MOST, MOST - 95999, LEAST, LEAST + 95999, LEAST + 12}) {
            due("n " + n, x.clock(0, 95999, 1, n), HIDDEN);
            due("n " + n, x.clock(1, 0, 0, n), HIDDEN);
        }
    }

    private static void clockOut() {
        CHECK.part("15: HIDDEN: OUT (either)");
        NoticeDesk x = Check.desk("zone 12", "zone - 12");
        due("below 0 there", x.clock(0, 23, 1, 0), HIDDEN);
        due("in by an hour", x.clock(0, 23, 1, 1), 0);
        due("above 3999 there", x.clock(1, 95976, 0, 0), HIDDEN);
        due("in by an hour", x.clock(1, 95976, 0, -1), 95999);
        for (int moment : new int[] {-1, 96000, LEAST, MOST}) {
            for (int n : new int[] {0, 1, -1, 30, -30, LEAST, MOST}) {
                due("moment " + moment + " n " + n, x.clock(0, moment, 0, n), HIDDEN);
            }
        }
    }

    private static void clockHidden() {
        CHECK.part("15: HIDDEN: no such LANDS");
        NoticeDesk x = new NoticeDesk();
        for (int land : NO_LANDS) {
            due("land " + land, x.clock(land, 30, 0, 0), HIDDEN);
            due("other " + land, x.clock(0, 30, land, 0), HIDDEN);
        }
    }

    private static void most() {
        mostSixty();
        mostRows();
        CHECK.part("43: NONE: no such ones");
        NoticeDesk x = new NoticeDesk();
        for (int day : NO_DAYS) {
            due("day " + day, x.most(day, 0), NONE);
        }
        for (int what : new int[] {-1, 5, LEAST, MOST}) {
            due("what " + what, x.most(0, what), NONE);
        }
    }

    private static void mostSixty() {
        CHECK.part("43: From a DAY on, 60 of them (as many as there are)");
        NoticeDesk x = Check.desk("rest 6", "rest 0 1 2 3 4 5");
        int[][] rows = {{0, 60}, {1, 60}, {3939, 60}, {3940, 60}, {3941, 59}, {3998, 2}, {3999, 1}};
        for (int[] row : rows) {
            due("just one, from " + row[0], x.most(row[0], 3), row[1]);
        }
        // WORKDAYS 5, 12, .. 54 alone; then 61, 62.
        String lonely = "rest 0 1 2 3 4;once 6;once 13;once 20;once 27;once 34;once 41;once 48;once 55";
        Check.land(x, 0, lonely);
        Check.land(x, 1, lonely);
        for (int what = 0; what < 3; what++) {
            due("2 to 61", x.most(2, what), 1);
            due("3 to 62", x.most(3, what), 2);
        }
        due("none: 6 to 11", x.most(0, 4), 6);
    }

    private static void mostRows() {
        CHECK.part("43: 0 most WORKDAYS of LAND 0, 1 of LAND 1, 2 of both at once, 4 the longest row of none");
        NoticeDesk x = Check.desk("rest 6", "rest 0 1");
        int[] due = {6, 5, 4, 8 + 9 + 9, 0};
        for (int what = 0; what < 5; what++) {
            due("most 0 " + what, x.most(0, what), due[what]);
        }
        due("the row begins with the DAY", x.most(3996, 1), 1);
        due("the row ends with the last DAY", x.most(3997, 0), 3);
        due("both, the last DAY", x.most(3999, 2), 1);
        Check.land(x, 1, "rest 6");
        due("none, one day", x.most(0, 4), 1);
        due("none of just one", x.most(0, 3), 0);
        Check.land(x, 0, "rest 5 6;once 7;once 3999");
        Check.land(x, 1, "rest 5 6;once 4;once 3999");
        due("none, two days", x.most(0, 4), 2);
        due("one of them alone", x.most(0, 3), 2);
        due("none, the last day", x.most(3999, 4), 1);
        due("no workday of both", x.most(3999, 2), 0);
        Check.land(x, 0, "rest 0 1 2 3 4 5;once 6");
        Check.land(x, 1, "rest 0 1 2 3 4 5;once 6");
        due("none: 0 to 12", x.most(0, 4), 13);
        due("cut by the first DAY", x.most(3, 4), 10);
    }
}
