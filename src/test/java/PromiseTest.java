/** The promises of the document one by one; every answer that is due was reckoned by hand. */
public final class PromiseTest {
    private static final int NONE = NoticeDesk.NONE;
    private static final int HIDDEN = NoticeDesk.HIDDEN;
    private static final Check CHECK = new Check();
    // Workdays 0 1 3 6 7 8 9 10 13 .., a holiday on 2, its clock 3 hours ahead.
    private static final String OTHER = "zone 3;rest 4 5;open 8 12;on 2";

    private PromiseTest() { }

    public static void main(String[] args) {
        newObject();
        tape();
        landFaults();
        wayFaults();
        chainFaults();
        lands();
        movedHolidays();
        waysTold();
        chainsTold();
        rules();
        days();
        workdays();
        bothLands();
        openOffices();
        darkHours();
        betweenDays();
        clocks();
        servedSteps();
        servedLands();
        steps();
        safeMoments();
        withinDays();
        edges();
        fastestWays();
        neverLater();
        chainEnds();
        quickChains();
        races();
        lastAndSlack();
        costs();
        dearest();
        dearestOfSeveral();
        send();
        withdraw();
        pass();
        states();
        statesByClocks();
        dueOrder();
        lateDays();
        now();
        undo();
        images();
        written();
        status();
        most();
        counts();
        CHECK.close();
    }

    private static void due(String call, long got, long want) {
        CHECK.due(call, got, want);
    }

    private static void newObject() {
        CHECK.part("1 a new object");
        NoticeDesk x = new NoticeDesk();
        int[] rules = {0, 96, 9, 17, 0, 2858, 0};
        for (int land = 0; land < 2; land++) {
            for (int what = 0; what < rules.length; what++) {
                due("rule " + land + " " + what, x.rule(land, what), rules[what]);
            }
        }
        int[] now = {0, 0, 0, 0, 0, 0, NONE, 0, 0};
        for (int what = 0; what < now.length; what++) {
            due("now " + what, x.now(what), now[what]);
        }
        due("count 0", x.count(0), 0);
        due("count 1", x.count(1), 0);
        due("undo", x.undo(), NONE);
        due("back", x.back(), NONE);
        due("NONE", NoticeDesk.NONE, -1);
        due("HIDDEN", NoticeDesk.HIDDEN, -1000000);
    }

    private static void tape() {
        CHECK.part("2 feed, 3 end");
        NoticeDesk x = new NoticeDesk();
        due("here, bytes of 0 between", x.feed(0x68006500, 0x00720065, 0, 0, 0), 4);
        due("it is a way", x.fault(1), NONE);
        due("twenty more", x.feed(0x20202020, 0x20202020, 0x20202020, 0x20202020, 0x20202020), 24);
        due("bytes above 127", x.feed(-1, 0, 0, 0, 0), 28);
        due("the first of them is the fault", x.fault(1), 24);
        CHECK.due("end -1", x.end(-1), false);
        CHECK.due("end 29", x.end(29), false);
        due("all stays", x.count(0), 28);
        CHECK.due("end 28", x.end(28), true);
        CHECK.due("end 3", x.end(3), true);
        due("three bytes are left", x.count(0), 3);
        due("her", x.fault(1), 0);
        due("her and e", x.feed(0, 0, 0, 0, 0x65), 4);
        due("here", x.fault(1), NONE);
        CHECK.due("end 0", x.end(0), true);
        for (int i = 1; i <= 16; i++) {
            due("row " + i, x.feed(-1, -1, -1, -1, -1), 20 * i);
        }
        due("320 are more than 300", x.feed(-1, 0, 0, 0, 0), NONE);
        due("nothing came", x.count(0), 320);
        CHECK.due("end 301", x.end(301), true);
        due("301 are more than 300", x.feed(0, 0, 0, 0, 0), NONE);
        CHECK.due("end 300", x.end(300), true);
        due("300 are not", x.feed(0, 0, 0, 0, 0), 300);
    }

    private static void faults(NoticeDesk x, int what, Object... textsAndFaults) {
        CHECK.faults(x, what, textsAndFaults);
    }

    private static void landFaults() {
        CHECK.part("4 fault of a land");
        NoticeDesk x = new NoticeDesk();
        faults(x, 0, "", NONE, "   ", NONE, ";", 0, "zone 3;", 7, " zone 3 ", NONE, " zone 3 ; ", 10,
            "zone3;rest5 6;open9 17;on5;first3from358;once3999;moved", NONE, "zone 3;;zone 4", 7);
        faults(x, 0, "zone", 4, "zone  ", 6, "zone -", 6, "zone --3", 6, "zone -12", NONE, "zone - 13", 7, "zone 13", 5,
            "zone 12", NONE, "zone 0012", NONE, "zone 00012", 5, "zone 3 -", 7, "Zone 3", 0, "zones 3", 0,
            "zone 3 rest 4", 7, "zone 3,rest 4", 6, "zone\t3", 4, "zone 3;zone 4", 7, "zone x", 5, "zone \u00e9", 5);
        faults(x, 0, "rest", 4, "rest 0 1 2 3 4 5", NONE, "rest 0 1 2 3 4 5 6", 17, "rest 3 3", 7, "rest 7", 5,
            "rest;", 4, "rest 1;rest 2", 7, "rest 56", 5, "rest 1 2 open 3 4", 9, "rest 1 2;open 3 4", NONE);
        faults(x, 0, "open 0 24", NONE, "open 0 25", 7, "open 24 24", 5, "open 23 24", NONE, "open 9 9", 7,
            "open 9 8", 7, "open 9", 6, "open 9 10 11", 10, "open 1 2;open 1 2", 9, "open", 4);
        faults(x, 0, "on 364", NONE, "on 365", 3, "on", 2, "on 1 2", 5, "once 3999", NONE, "once 4000", 5, "once 0", NONE,
            "first 6 from 358", NONE, "first 6 from 359", 13, "first 7 from 3", 6, "first 6 on 3", 8,
            "first 6 from", 12, "first 6", 7, "first from 3", 6, "from 3", 0, "here", 0);
        faults(x, 0, "kept", NONE, "kept;kept", 5, "moved;kept", 6, "kept;moved", 5, "moved;moved", 6, "kept 3", 5,
            "keptmoved", 0);
        for (String word : new String[] {"zone", "zone -", "rest", "open", "open 9", "on", "first", "first 3",
            "first 3 from", "once"}) {
            faults(x, 0, word, word.length(), word + ";kept", word.length(), word + " kept", word.length() + 1);
        }
        String twelve = "on 1;once 2;first 3 from 4;on 1;once 2;first 3 from 4;on 1;once 2;first 3 from 4;"
            + "on 1;once 2;first 3 from 4";
        faults(x, 0, twelve, NONE, twelve + ";zone 3;kept;rest 1;open 2 3", NONE);
        for (String word : new String[] {"on 1", "once 1", "first 1 from 1"}) {
            faults(x, 0, twelve + "; " + word, twelve.length() + 2);
        }
        due("a fault leaves the tape", x.count(0), twelve.length() + 16);
        due("fault 3", x.fault(3), -2);
        due("fault -1", x.fault(-1), -2);
    }

    private static void wayFaults() {
        CHECK.part("4 fault of a way");
        NoticeDesk x = new NoticeDesk();
        faults(x, 1, "", 0, "  ", 2, "here", NONE, " here ", NONE, "heres", 0, "here there", NONE, "herethere", 0,
            "days5work2hours3roll", NONE, "back begin end roll office here there", NONE, "days", 4, "days ", 5,
            "days 100", 5, "days 99", NONE, "days 0", NONE, "hours 99", NONE, "hours 100", 6, "work 0", 5,
            "work 1", NONE, "work 60", NONE, "work 61", 5, "hours 0099", NONE, "hours 00099", 6, "5 days", 0,
            "here 5", 5, "here;", 4, "days five", 5, "days -5", 5, "days 5 6", 7, "Here", 0, "zone 3", 0);
        String twelve = "here ".repeat(12);
        faults(x, 1, twelve, NONE, twelve + "there", 60, twelve + "work 2", 60, twelve + ";", 60);
    }

    private static void chainFaults() {
        CHECK.part("4 fault of a chain");
        NoticeDesk x = new NoticeDesk();
        String stage = "by 0 from 0 to 1 wait 3 days at 9";
        faults(x, 2, stage, 3);
        due("a way", Check.way(x, 0, "here"), 1);
        faults(x, 2, stage, NONE, "", 0, "  ", 2, "by 1 from 0 to 1 wait 3 days at 9", 3, "by 8", 3, "by", 2,
            "by 0 from 2", 10, "by 0 from", 9, "by 0 to 1", 5, "by 0 from 0 to 2", 15, "by 0 from 0 wait", 12,
            "by 0 from 0 to 1 wait 100", 22, "by 0 from 0 to 1 wait 99 work at 23", NONE,
            "by 0 from 0 to 1 wait 0 days at 0", NONE, "by 0 from 0 to 1 wait 3 weeks", 24,
            "by 0 from 0 to 1 wait 3 days at 24", 32, "by 0 from 0 to 1 wait 3 days 9", 29,
            "by 0 from 0 to 1 wait 3 days at", 31, "by0from0to1wait3work at9", NONE, "by0from0to1wait3workat9", 16,
            "from 0", 0, stage + ";", 34, stage + " by", 34, stage + "; " + stage, NONE, ";" + stage, 0);
        String begun = "";
        for (String part : stage.split(" ")) {
            faults(x, 2, begun, begun.length(), begun + ";" + stage, begun.length(), begun + " ?", begun.length() + 1);
            begun = begun.isEmpty() ? part : begun + " " + part;
        }
        String six = stage + ";" + stage + ";" + stage + ";" + stage + ";" + stage + ";" + stage;
        faults(x, 2, six, NONE, six + ";" + stage, 204, six + ";", 204, six + " by", 204);
    }

    private static void lands() {
        CHECK.part("5 land");
        NoticeDesk x = new NoticeDesk();
        due("of 11 days on 5 4 are of rest", Check.land(x, 0, "on 5"), 7);
        due("the tape is empty", x.count(0), 0);
        due("kept: DAY 5 is of rest", x.day(0, 5), 1);
        due("kept: DAY 7 is a workday", x.day(0, 7), 0);
        due("DAY 735, YEAR 2", x.day(0, 735), 2);
        due("no LAND 2", Check.land(x, 2, "on 5"), NONE);
        due("no LAND -1", x.land(-1), NONE);
        due("the tape stays", x.count(0), 4);
        due("it was a land", x.land(1), 7);
        due("a fault", Check.land(x, 1, "on 500"), NONE);
        due("the tape stays", x.count(0), 6);
        due("the land stays", x.rule(1, 4), 7);
        due("on 349", Check.land(x, 0, "on 349"), 8);
        due("DAY 3999 is the last one", x.day(0, 3999), 2);
        due("each year's first, YEAR 10 ends ahead of it", Check.land(x, 0, "first 0 from 358"), 10);
        due("DAY 364", x.day(0, 364), 2);
        due("DAY 357", x.day(0, 357), 0);
        due("DAY 728", x.day(0, 728), 2);
        due("from DAY N on, itself", Check.land(x, 0, "first 3 from 3"), 11);
        due("DAY 3", x.day(0, 3), 2);
        due("DAY 371 is wide of it", x.day(0, 371), 0);
        due("DAY 374", x.day(0, 374), 2);
        due("DAY 367", x.day(0, 367), 0);
        due("once and once more", Check.land(x, 0, "once 3999;once 0;once 0"), 2);
        due("an empty text", Check.land(x, 0, ""), 0);
        due("all is plain again", x.rule(0, 5), 2858);
    }

    private static void movedHolidays() {
        CHECK.part("5 land, moved");
        NoticeDesk x = new NoticeDesk();
        due("each one has its day", Check.land(x, 0, "on 5;moved"), 11);
        due("DAY 5 stays of rest", x.day(0, 5), 1);
        due("DAY 7", x.day(0, 7), 2);
        due("DAY 8", x.day(0, 8), 0);
        due("DAY 371, YEAR 1", x.day(0, 371), 2);
        due("behind those that are", Check.land(x, 0, "moved;once 7;once 6;once 5"), 3);
        due("DAY 8", x.day(0, 8), 2);
        due("DAY 9", x.day(0, 9), 2);
        due("DAY 10", x.day(0, 10), 0);
        due("told twice, moved once", Check.land(x, 0, "once 5;once 5;first 5 from 0;moved"), 11);
        due("DAY 7", x.day(0, 7), 2);
        due("DAY 8", x.day(0, 8), 0);
        due("none beyond 3999", Check.land(x, 0, "rest 2;once 3999;moved"), 0);
        due("kept is said", Check.land(x, 0, "once 5;kept"), 0);
    }

    private static void waysTold() {
        CHECK.part("6 way");
        NoticeDesk x = new NoticeDesk();
        due("three steps", Check.way(x, 7, "office there work 2"), 3);
        due("the tape is empty", x.count(0), 0);
        due("bits", x.now(7), 128);
        due("twelve steps", Check.way(x, 0, "end ".repeat(12)), 12);
        due("bits", x.now(7), 129);
        due("another one in its place", Check.way(x, 0, "days 5"), 1);
        due("it is the new one", x.served(0, 0, 0, 0), 5);
        due("a fault", Check.way(x, 0, "days 500"), NONE);
        due("the tape stays", x.count(0), 8);
        due("the way stays", x.served(0, 0, 0, 0), 5);
        Check.feed(x, "end");
        due("no WAY 8", x.way(8), NONE);
        due("no WAY -1", x.way(-1), NONE);
        due("the tape stays", x.count(0), 3);
    }

    private static void chainsTold() {
        CHECK.part("7 chain");
        NoticeDesk x = new NoticeDesk();
        String stage = "by 3 from 0 to 0 wait 1 days at 9";
        due("no such way", Check.chain(x, 0, stage), NONE);
        due("the tape stays", x.count(0), 33);
        Check.way(x, 3, "here");
        due("one stage", Check.chain(x, 5, stage), 1);
        due("the tape is empty", x.count(0), 0);
        due("bits", x.now(8), 32);
        due("two stages", Check.chain(x, 5, stage + ";" + stage), 2);
        due("it is the new one", x.ends(5, 0), 2);
        due("a fault", Check.chain(x, 5, "by"), NONE);
        due("the chain stays", x.ends(5, 0), 2);
        Check.way(x, 3, "days 4");
        due("by the way as it is now", x.ends(5, 0), 10);
        Check.feed(x, stage);
        due("no CHAIN 6", x.chain(6), NONE);
        due("no CHAIN -1", x.chain(-1), NONE);
        due("the tape stays", x.count(0), 33);
    }

    private static void rules() {
        CHECK.part("8 rule");
        NoticeDesk x = new NoticeDesk();
        Check.land(x, 1, "zone - 5;rest 0 3;open 0 24;once 1;once 3;moved");
        int[] due = {-5, 9, 0, 24, 2, 4000 - 572 - 571 - 2, 1};
        for (int what = 0; what < due.length; what++) {
            due("rule 1 " + what, x.rule(1, what), due[what]);
        }
        due("LAND 0 is as it was", x.rule(0, 1), 96);
        due("no such what", x.rule(0, 7), HIDDEN);
        due("no such what", x.rule(0, -1), HIDDEN);
        due("no such land", x.rule(2, 0), HIDDEN);
        due("no such land", x.rule(-1, 0), HIDDEN);
    }

    private static NoticeDesk withOther() {
        NoticeDesk x = new NoticeDesk();
        Check.land(x, 1, OTHER);
        return x;
    }

    private static void days() {
        CHECK.part("9 day");
        NoticeDesk x = withOther();
        int[] due = {0, 0, 2, 0, 1, 1, 0, 0, 0, 0, 0, 1, 1, 0};
        for (int day = 0; day < due.length; day++) {
            due("day " + day, x.day(1, day), due[day]);
        }
        due("DAY -1", x.day(1, -1), NONE);
        due("DAY 4000", x.day(1, 4000), NONE);
        due("LAND 2", x.day(2, 0), NONE);
        due("LAND -1", x.day(-1, 0), NONE);
    }

    private static void workdays() {
        CHECK.part("10 plus");
        NoticeDesk x = withOther();
        int[][] rows = {{0, 1, 1}, {1, 1, 3}, {1, 2, 6}, {2, 1, 3}, {2, -1, 1}, {2, 0, NONE}, {3, 0, 3}, {6, -1, 3},
            {6, -2, 1}, {6, -3, 0}, {6, -4, NONE}, {0, -1, NONE}, {5, 6, 13}, {4, 0, NONE}, {3999, 1, NONE},
            {3999, 0, 3999}, {3998, 1, 3999}, {0, Integer.MAX_VALUE, NONE}, {3999, Integer.MIN_VALUE, NONE},
            {3999, Integer.MAX_VALUE, NONE}, {0, Integer.MIN_VALUE, NONE}, {-1, 1, NONE}, {4000, -1, NONE}};
        for (int[] row : rows) {
            due("plus " + row[0] + " " + row[1], x.plus(1, row[0], row[1]), row[2]);
        }
        due("the last of all", x.plus(0, 0, 2857), 3999);
        due("one more", x.plus(0, 0, 2858), NONE);
        due("and back", x.plus(0, 3999, -2857), 0);
        due("LAND 2", x.plus(2, 0, 1), NONE);
    }

    private static void bothLands() {
        CHECK.part("11 both");
        NoticeDesk x = withOther();
        // Of both: 0 1 3 7 8 9 10 14.
        int[][] rows = {{0, 0, 0}, {0, 2, 3}, {3, 1, 7}, {3, 5, 14}, {2, 0, NONE}, {4, 0, NONE}, {6, 0, NONE},
            {7, -1, 3}, {7, -3, 0}, {7, -4, NONE}, {5, -1, 3}, {5, 1, 7}, {-1, 1, NONE}, {4000, -1, NONE},
            {0, Integer.MAX_VALUE, NONE}, {3999, Integer.MIN_VALUE, NONE}, {3999, 1, NONE}, {3998, 1, 3999}};
        for (int[] row : rows) {
            due("both " + row[0] + " " + row[1], x.both(row[0], row[1]), row[2]);
        }
    }

    private static void openOffices() {
        CHECK.part("12 open");
        NoticeDesk x = withOther();
        due("LAND 0", x.open(0, 0), 130560);
        due("LAND 1", x.open(0, 1), 480);
        due("both", x.open(0, 2), 0);
        due("one at least", x.open(0, 3), 131040);
        due("a holiday", x.open(2, 1), 0);
        due("of rest", x.open(5, 3), 0);
        due("LAND 1 alone", x.open(6, 3), 480);
        Check.land(x, 0, "open 8 13");
        due("hour 8 both", x.open(0, 2), 256);
        Check.land(x, 1, "zone 12;open 8 12");
        due("it is the next day there", x.open(0, 1), 15728640);
        due("of rest there", x.open(4, 1), 0);
        due("a workday there", x.open(6, 1), 15728640);
        due("OUT there", x.open(3999, 1), 0);
        Check.land(x, 1, "zone - 12;open 12 24");
        due("OUT there", x.open(0, 1), 0);
        due("it is the day ahead there", x.open(1, 1), 4095);
        due("DAY -1", x.open(-1, 0), NONE);
        due("DAY 4000", x.open(4000, 0), NONE);
        due("what 4", x.open(0, 4), NONE);
        due("what -1", x.open(0, -1), NONE);
    }

    private static void darkHours() {
        CHECK.part("13 dark");
        NoticeDesk x = new NoticeDesk();
        int[][] rows = {{0, 0, 9, 0}, {0, 1, 16, 17}, {0, 2, 16, 17}, {5, 6, 48, 120}, {4, 7, 64, 113}, {4, 14, 64, 113},
            {0, 59, 64, 113}, {3940, 3999, 64, 24 * 3945 + 17}, {3999, 3999, 9, 95976}};
        for (int[] row : rows) {
            due("dark " + row[0] + " " + row[1] + " 0", x.dark(row[0], row[1], 0), row[2]);
            due("dark " + row[0] + " " + row[1] + " 1", x.dark(row[0], row[1], 1), row[3]);
        }
        due("61 DAYS", x.dark(0, 60, 0), NONE);
        due("last ahead of first", x.dark(1, 0, 0), NONE);
        due("DAY -1", x.dark(-1, 0, 0), NONE);
        due("DAY 4000", x.dark(3999, 4000, 0), NONE);
        due("what 2", x.dark(0, 0, 2), NONE);
        due("what -1", x.dark(0, 0, -1), NONE);
        Check.land(x, 0, "rest 0;open 0 24");
        due("never dark", x.dark(1, 1, 0), 0);
        due("never dark", x.dark(1, 1, 1), NONE);
        Check.land(x, 1, "zone 12");
        due("LAND 1 is open from 0 to 4, from 21 on", x.dark(0, 0, 0), 16);
        due("the first", x.dark(0, 0, 1), 5);
    }

    private static void betweenDays() {
        CHECK.part("14 between");
        NoticeDesk x = withOther();
        int[][] rows = {{0, 0, 0}, {0, 1, 1}, {0, 2, 1}, {0, 3, 2}, {2, 3, 1}, {3, 6, 1}, {6, 3, -1}, {3, 0, -2},
            {6, 5, 0}, {6, 0, -3}, {0, 3999, 4000 - 571 - 571 - 7 - 1}, {2, 2, 0}};
        for (int[] row : rows) {
            due("between " + row[0] + " " + row[1], x.between(1, row[0], row[1]), row[2]);
        }
        due("all of LAND 0", x.between(0, 3999, 0), -2857);
        due("DAY 4000", x.between(0, 0, 4000), HIDDEN);
        due("DAY -1", x.between(0, -1, 0), HIDDEN);
        due("LAND 2", x.between(2, 0, 0), HIDDEN);
    }

    private static void clocks() {
        CHECK.part("15 clock");
        NoticeDesk x = withOther();
        due("3 hours ahead", x.clock(0, 30, 1, 0), 33);
        due("and back", x.clock(1, 33, 0, 0), 30);
        due("one land", x.clock(1, 33, 1, -33), 0);
        due("later", x.clock(0, 30, 1, 100), 133);
        due("OUT there", x.clock(1, 2, 0, 0), HIDDEN);
        due("in again", x.clock(1, 2, 0, 1), 0);
        due("the last one", x.clock(0, 95996, 1, 0), 95999);
        due("one more", x.clock(0, 95997, 1, 0), HIDDEN);
        due("hours ahead", x.clock(0, 95999, 1, -3), 95999);
        due("OUT here", x.clock(0, 96000, 1, -100), HIDDEN);
        due("OUT here", x.clock(0, -1, 1, 100), HIDDEN);
        due("the most", x.clock(0, 95999, 1, Integer.MAX_VALUE), HIDDEN);
        due("the least", x.clock(1, 0, 0, Integer.MIN_VALUE), HIDDEN);
        due("LAND 2", x.clock(2, 0, 0, 0), HIDDEN);
        due("LAND -1", x.clock(0, 0, -1, 0), HIDDEN);
    }

    /** Where a way of one step leads in LAND 0: the day and the hour. */
    private static void leads(NoticeDesk x, String step, int... rows) {
        Check.way(x, 0, step);
        for (int i = 0; i < rows.length; i += 2) {
            int moment = rows[i];
            int want = rows[i + 1];
            due(step + " from " + moment + ", the day", x.served(0, 0, 1, moment), want == NONE ? NONE : want / 24);
            due(step + " from " + moment + ", the hour", x.step(0, 0, 1, moment, 0, 1), want == NONE ? NONE : want % 24);
        }
    }

    private static int at(int day, int hour) {
        return 24 * day + hour;
    }

    private static void servedSteps() {
        CHECK.part("16 served, a step");
        NoticeDesk x = withOther();
        leads(x, "office", 8, 9, 9, 9, 16, 16, 17, at(1, 9), at(4, 17), at(7, 9), at(5, 0), at(7, 9), at(6, 23), at(7, 9),
            at(3999, 16), at(3999, 16), at(3999, 17), NONE);
        leads(x, "hours 30", 0, 30, 95969, 95999, 95970, NONE);
        leads(x, "hours 0", 95999, 95999);
        leads(x, "days 3", 5, 77, at(3996, 23), 95999, at(3997, 0), NONE);
        leads(x, "work 2", at(0, 10), at(2, 10), at(4, 10), at(8, 10), at(5, 10), at(8, 23), at(6, 0), at(8, 23),
            at(3998, 1), NONE, at(3997, 1), at(3999, 1));
        leads(x, "roll", at(5, 10), at(7, 0), at(6, 10), at(7, 0), at(4, 10), at(4, 10));
        leads(x, "back", at(5, 10), at(4, 23), at(6, 10), at(4, 23), at(4, 10), at(4, 10));
        leads(x, "begin", at(5, 10), at(5, 0), at(0, 0), at(0, 0));
        leads(x, "end", at(5, 10), at(5, 23), at(3999, 0), at(3999, 23));
        Check.land(x, 0, "rest 0 2");
        leads(x, "back", at(0, 10), NONE, at(1, 10), at(1, 10));
        leads(x, "work 1", at(0, 10), NONE, at(1, 10), at(3, 10));
        leads(x, "roll", at(0, 10), at(1, 0), at(3999, 10), NONE);
        leads(x, "office", at(0, 10), at(1, 9), at(3999, 10), NONE);
        due("no such way", x.served(1, 0, 0, 0), -2);
        due("WAY 8", x.served(8, 0, 0, 0), -2);
        due("WAY -1", x.served(-1, 0, 0, 0), -2);
        due("LAND 2", x.served(0, 2, 0, 0), -2);
        due("LAND -1", x.served(0, 0, -1, 0), -2);
        due("MOMENT -1", x.served(0, 0, 0, -1), -2);
        due("MOMENT 96000", x.served(0, 0, 0, 96000), -2);
    }

    private static void servedLands() {
        CHECK.part("16 served, here and there");
        NoticeDesk x = withOther();
        Check.way(x, 0, "there");
        due("it is late there", x.served(0, 0, 1, 21), 1);
        due("not yet", x.served(0, 0, 1, 20), 0);
        due("to the same land", x.served(0, 0, 0, 23), 0);
        due("OUT there, below", x.served(0, 1, 0, 2), NONE);
        due("in", x.served(0, 1, 0, 3), 0);
        due("OUT there, above", x.served(0, 0, 1, 95997), NONE);
        Check.way(x, 0, "there here");
        due("it was OUT on its way", x.served(0, 1, 0, 2), NONE);
        due("and here again", x.served(0, 0, 1, 21), 0);
        Check.way(x, 0, "there roll");
        due("by the calendar there", x.served(0, 0, 1, at(4, 0)), 6);
        due("by the calendar there", x.served(0, 1, 0, at(6, 5)), 7);
        Check.way(x, 0, "roll");
        due("by the calendar here", x.served(0, 0, 1, at(5, 0)), 7);
        due("by the calendar here", x.served(0, 1, 0, at(5, 0)), 6);
        Check.way(x, 0, "there office here");
        due("a holiday there, then by here", x.step(0, 0, 1, at(2, 0), 2, 1), 5);
        due("its day", x.served(0, 0, 1, at(2, 0)), 3);
        Check.way(x, 0, "there end here");
        due("the end of the day there is the next one here", x.served(0, 0, 1, 0), 0);
        due("hour 20", x.step(0, 0, 1, 0, 2, 1), 20);
        Check.way(x, 0, "there begin here");
        due("its beginning is OUT here", x.served(0, 0, 1, 0), NONE);
        due("in", x.served(0, 0, 1, 21), 0);
    }

    private static void steps() {
        CHECK.part("17 step");
        NoticeDesk x = withOther();
        Check.way(x, 2, "office there work 1 here days 99");
        int sent = at(3, 17);
        // Office: 4 at 9; there: 4 at 12, of rest; work: from 3 at 23, 6 at 23; here: 6 at 20; then 105 at 20.
        int[][] due = {{4, 9, 0}, {4, 12, 1}, {6, 23, 1}, {6, 20, 0}, {105, 20, 0}};
        for (int k = 0; k < due.length; k++) {
            for (int what = 0; what < 3; what++) {
                due("step " + k + " " + what, x.step(2, 0, 1, sent, k, what), due[k][what]);
            }
        }
        due("STEP 5", x.step(2, 0, 1, sent, 5, 0), -2);
        due("STEP -1", x.step(2, 0, 1, sent, -1, 0), -2);
        due("what 3", x.step(2, 0, 1, sent, 0, 3), -2);
        due("what -1", x.step(2, 0, 1, sent, 0, -1), -2);
        due("no such way", x.step(1, 0, 1, sent, 0, 0), -2);
        due("LAND 2", x.step(2, 0, 2, sent, 0, 0), -2);
        due("MOMENT 96000", x.step(2, 0, 1, 96000, 0, 0), -2);
        due("not NEVER yet", x.step(2, 0, 1, at(3990, 10), 3, 2), 0);
        for (int what = 0; what < 3; what++) {
            due("NEVER by then", x.step(2, 0, 1, at(3990, 10), 4, what), NONE);
        }
    }

    private static void safeMoments() {
        CHECK.part("18 safe");
        NoticeDesk x = withOther();
        Check.way(x, 0, "office");
        int[][] rows = {{0, 16}, {3, at(3, 16)}, {4, at(4, 16)}, {5, at(4, 16)}, {6, at(4, 16)}, {7, at(7, 16)},
            {3999, at(3999, 16)}};
        for (int[] row : rows) {
            due("office " + row[0], x.safe(0, 0, 0, row[0]), row[1]);
        }
        Check.way(x, 0, "days 3");
        due("none", x.safe(0, 0, 0, 2), NONE);
        due("the first day", x.safe(0, 0, 0, 3), 23);
        due("the last day", x.safe(0, 0, 0, 3999), at(3996, 23));
        Check.way(x, 0, "there");
        due("what is NEVER at first is none", x.safe(0, 1, 0, 0), 26);
        due("by the clock from which", x.safe(0, 0, 1, 0), 20);
        Check.way(x, 0, "end");
        due("the last moment of all", x.safe(0, 0, 0, 3999), 95999);
        Check.land(x, 0, "rest 0");
        Check.way(x, 0, "back");
        due("DAY 0 is NEVER", x.safe(0, 0, 0, 0), NONE);
        due("DAY 1", x.safe(0, 0, 0, 1), at(1, 23));
        due("DAY 6 holds DAY 7", x.safe(0, 0, 0, 6), at(7, 23));
        due("DAY -1", x.safe(0, 0, 0, -1), -2);
        due("DAY 4000", x.safe(0, 0, 0, 4000), -2);
        due("LAND 2", x.safe(0, 0, 2, 0), -2);
        due("no such way", x.safe(1, 0, 0, 0), -2);
    }

    private static void withinDay(NoticeDesk x, int from, int to, int day, int... due) {
        for (int what = 0; what < 3; what++) {
            due("within " + day + " " + what, x.within(0, from, to, day, what), due[what]);
        }
    }

    private static void withinDays() {
        CHECK.part("19 within");
        NoticeDesk x = withOther();
        Check.way(x, 0, "office");
        withinDay(x, 0, 0, 0, 17, 0, 16);
        withinDay(x, 0, 0, 7, 72, 113, 184);
        withinDay(x, 0, 0, 5, 0, NONE, NONE);
        Check.way(x, 0, "there");
        withinDay(x, 1, 0, 0, 24, 3, 26);
        withinDay(x, 0, 1, 0, 21, 0, 20);
        withinDay(x, 0, 1, 3999, 24, at(3998, 21), at(3999, 20));
        Check.way(x, 0, "days 3");
        withinDay(x, 0, 0, 2, 0, NONE, NONE);
        withinDay(x, 0, 0, 3999, 24, at(3996, 0), at(3996, 23));
        Check.way(x, 0, "hours 23");
        withinDay(x, 0, 0, 0, 1, 0, 0);
        due("what 3", x.within(0, 0, 0, 3, 3), -2);
        due("what -1", x.within(0, 0, 0, 3, -1), -2);
        due("DAY 4000", x.within(0, 0, 0, 4000, 0), -2);
        due("LAND -1", x.within(0, -1, 0, 3, 0), -2);
        due("no such way", x.within(1, 0, 0, 3, 0), -2);
    }

    private static void edges() {
        CHECK.part("20 edges");
        NoticeDesk x = withOther();
        Check.way(x, 0, "office");
        due("as it closes", x.edges(0, 0, 0, 0), 1 << 17);
        due("ahead of rest", x.edges(0, 0, 0, 4), 1 << 17);
        due("of rest", x.edges(0, 0, 0, 5), 0);
        due("NEVER is later", x.edges(0, 0, 0, 3999), 1 << 17);
        Check.way(x, 0, "begin");
        due("hour 0 of DAY 0", x.edges(0, 0, 0, 0), 0);
        due("hour 0 of DAY 1", x.edges(0, 0, 0, 1), 1);
        Check.way(x, 0, "there");
        due("midnight there", x.edges(0, 0, 1, 3), 1 << 21);
        due("NEVER, then served", x.edges(0, 1, 0, 0), 0);
        due("midnight there", x.edges(0, 1, 0, 1), 1 << 3);
        due("OUT", x.edges(0, 0, 1, 3999), 1 << 21);
        Check.way(x, 0, "days 1");
        due("NEVER from hour 0 on", x.edges(0, 0, 0, 3999), 1);
        due("no such way", x.edges(1, 0, 1, 0), NONE);
        due("LAND 2", x.edges(0, 0, 2, 0), NONE);
        due("DAY 4000", x.edges(0, 0, 1, 4000), NONE);
        due("DAY -1", x.edges(0, 0, 1, -1), NONE);
        Check.land(x, 1, "zone 12");
        Check.way(x, 1, "office there");
        due("midnight there at noon", x.edges(1, 0, 1, 3), 1 << 12);
        due("and as it closes ahead of rest", x.edges(1, 0, 1, 4), 1 << 12 | 1 << 17);
        due("none while it is closed", x.edges(1, 0, 1, 5), 0);
    }

    private static void fastestWays() {
        CHECK.part("21 fastest");
        NoticeDesk x = withOther();
        due("no ways", x.fastest(0, 0, 0, 0), NONE);
        due("no ways", x.fastest(0, 0, 0, 1), NONE);
        Check.way(x, 0, "days 2");
        Check.way(x, 3, "days 1");
        Check.way(x, 5, "hours 24");
        due("the lowest of two", x.fastest(0, 0, 0, 0), 3);
        due("its day", x.fastest(0, 0, 0, 1), 1);
        due("those in time", x.fastest(0, 0, at(3998, 5), 0), 3);
        due("all NEVER", x.fastest(0, 0, at(3999, 5), 0), NONE);
        due("all NEVER", x.fastest(0, 0, at(3999, 5), 1), NONE);
        Check.way(x, 7, "begin there");
        due("to there", x.fastest(0, 1, 0, 0), 7);
        due("NEVER at first", x.fastest(1, 0, 1, 0), 3);
        due("what 2", x.fastest(0, 0, 0, 2), -2);
        due("what -1", x.fastest(0, 0, 0, -1), -2);
        due("LAND 2", x.fastest(2, 0, 0, 0), -2);
        due("LAND -1", x.fastest(0, -1, 0, 0), -2);
        due("MOMENT 96000", x.fastest(0, 0, 96000, 0), -2);
        due("MOMENT -1", x.fastest(0, 0, -1, 0), -2);
    }

    private static void neverLater() {
        CHECK.part("22 neverLater");
        NoticeDesk x = new NoticeDesk();
        Check.way(x, 0, "days 1");
        Check.way(x, 1, "days 2");
        Check.way(x, 2, "begin");
        Check.way(x, 3, "office");
        due("1 and 2", x.neverLater(0, 1, 0, 0, 0, 39), 1);
        due("2 and 1", x.neverLater(1, 0, 0, 0, 0, 39), 0);
        due("itself", x.neverLater(1, 1, 0, 1, 0, 39), 1);
        due("both NEVER", x.neverLater(1, 0, 0, 0, 3999, 3999), 1);
        due("one NEVER", x.neverLater(1, 0, 0, 0, 3998, 3999), 0);
        due("the other NEVER", x.neverLater(0, 1, 0, 0, 3998, 3999), 1);
        due("begin and office", x.neverLater(2, 3, 0, 0, 0, 5), 1);
        due("a late hour", x.neverLater(3, 2, 0, 0, 0, 0), 0);
        due("a working day less: always", x.neverLater(3, 0, 0, 0, 0, 3), 1);
        due("the last hours of the last day", x.neverLater(3, 0, 0, 0, 0, 4), 0);
        Check.way(x, 4, "roll");
        due("workdays alone", x.neverLater(4, 2, 0, 0, 0, 4), 1);
        due("a day of rest too", x.neverLater(4, 2, 0, 0, 0, 5), 0);
        due("from a day of rest on", x.neverLater(4, 2, 0, 0, 6, 6), 0);
        due("41 DAYS", x.neverLater(0, 1, 0, 0, 0, 40), NONE);
        due("last ahead of first", x.neverLater(0, 1, 0, 0, 1, 0), NONE);
        due("DAY 4000", x.neverLater(0, 1, 0, 0, 3999, 4000), NONE);
        due("DAY -1", x.neverLater(0, 1, 0, 0, -1, 4), NONE);
        due("no such way", x.neverLater(5, 0, 0, 0, 0, 1), NONE);
        due("no such other one", x.neverLater(0, 5, 0, 0, 0, 1), NONE);
        due("LAND 2", x.neverLater(0, 1, 2, 0, 0, 1), NONE);
        due("LAND -1", x.neverLater(0, 1, 0, -1, 0, 1), NONE);
    }

    private static NoticeDesk withChain() {
        NoticeDesk x = new NoticeDesk();
        Check.way(x, 0, "days 1");
        Check.chain(x, 0, "by 0 from 0 to 0 wait 2 days at 9;by 0 from 0 to 0 wait 1 work at 9");
        return x;
    }

    private static void chainEnds() {
        CHECK.part("23 ends, 24 stage");
        NoticeDesk x = withChain();
        int[] ends = {5, 8, 8, 8, 9, 10, 11, 12};
        for (int begun = 0; begun < ends.length; begun++) {
            due("ends " + begun, x.ends(0, begun), ends[begun]);
        }
        int[][] stages = {{1, 0, 3, 4}, {1, 1, 7, 8}, {3996, 0, 3998, 3999}, {3996, 1, NONE, NONE},
            {3997, 0, 3999, NONE}, {3997, 1, NONE, NONE}, {3998, 0, NONE, NONE}, {3999, 1, NONE, NONE}};
        for (int[] row : stages) {
            due("sent " + row[0] + " " + row[1], x.stage(0, row[0], row[1], 0), row[2]);
            due("served " + row[0] + " " + row[1], x.stage(0, row[0], row[1], 1), row[3]);
        }
        for (int begun = 3995; begun < 4000; begun++) {
            due("NEVER", x.ends(0, begun), NONE);
        }
        due("sent on 3999", x.stage(0, 3995, 1, 0), 3999);
        due("served NEVER", x.stage(0, 3995, 1, 1), NONE);
        due("in time", x.ends(0, 3994), 3999);
        Check.chain(x, 1, "by 0 from 0 to 0 wait 0 work at 9");
        due("wait 0 work: that day, whatever it is", x.stage(1, 5, 0, 0), 5);
        Check.land(x, 1, OTHER);
        Check.way(x, 1, "there");
        Check.chain(x, 2, "by 1 from 0 to 1 wait 1 work at 22;by 1 from 1 to 0 wait 2 work at 1");
        // From 0 the first workday behind is 1; it is DAY 2 there; 2 workdays of LAND 1 behind: 3, 6; and DAY 5 by LAND 0.
        due("sent by LAND 0", x.stage(2, 0, 0, 0), 1);
        due("served there", x.stage(2, 0, 0, 1), 2);
        due("workdays of the land from which", x.stage(2, 0, 1, 0), 6);
        due("and its clock", x.stage(2, 0, 1, 1), 5);
        Check.chain(x, 3, "by 1 from 1 to 0 wait 0 days at 2;by 0 from 0 to 0 wait 0 days at 0");
        due("NEVER below DAY 0", x.ends(3, 0), NONE);
        due("sent all the same", x.stage(3, 0, 0, 0), 0);
        due("no more by then", x.stage(3, 0, 1, 0), NONE);
        due("DAY 1 is served on 0", x.ends(3, 1), 1);
        due("no such chain", x.ends(4, 0), -2);
        due("CHAIN 6", x.ends(6, 0), -2);
        due("CHAIN -1", x.ends(-1, 0), -2);
        due("DAY 4000", x.ends(0, 4000), -2);
        due("DAY -1", x.ends(0, -1), -2);
        due("STAGE 2", x.stage(0, 0, 2, 0), -2);
        due("STAGE -1", x.stage(0, 0, -1, 0), -2);
        due("what 2", x.stage(0, 0, 0, 2), -2);
        due("what -1", x.stage(0, 0, 0, -1), -2);
        due("no such chain", x.stage(4, 0, 0, 0), -2);
        due("DAY 4000", x.stage(0, 4000, 0, 0), -2);
    }

    private static void quickChains() {
        CHECK.part("25 quick");
        NoticeDesk x = withChain();
        due("its own way alone", x.quick(0, 0, NONE), 5);
        Check.way(x, 2, "hours 1");
        Check.way(x, 4, "hours 2");
        due("the lowest that is first", x.quick(0, 0, 0), 2);
        due("served on 2, sent on 3", x.quick(0, 0, 1), 2);
        due("ends", x.quick(0, 0, NONE), 3);
        due("the chain itself stays", x.ends(0, 0), 5);
        Check.way(x, 2, "work 5");
        Check.way(x, 4, "days 3 back");
        // Sent on 5: DAY 6 by 0; 7 by 2; 8 by 4. Sent on 3: 4 by 0; 10 by 2; 4 (6 is of rest) by 4.
        due("of two alike the lowest", x.quick(0, 1, 0), 0);
        Check.way(x, 0, "days 2");
        due("another one first", x.quick(0, 1, 0), 4);
        due("all NEVER", x.quick(0, 3997, 0), NONE);
        due("NEVER", x.quick(0, 3997, NONE), NONE);
        due("STAGE 2", x.quick(0, 0, 2), -2);
        due("STAGE -2", x.quick(0, 0, -2), -2);
        due("no such chain", x.quick(1, 0, NONE), -2);
        due("DAY 4000", x.quick(0, 4000, NONE), -2);
        due("DAY -1", x.quick(0, -1, 0), -2);
    }

    private static void races() {
        CHECK.part("26 race");
        NoticeDesk x = withChain();
        Check.chain(x, 1, "by 0 from 0 to 0 wait 6 days at 0");
        // From 0 to 7 CHAIN 0 ends 5 8 8 8 9 10 11 12, CHAIN 1 7 8 9 10 11 12 13 14.
        int[] due = {7, 1, 0};
        for (int what = 0; what < 3; what++) {
            due("race 0 1 " + what, x.race(0, 1, 0, 7, what), due[what]);
            due("race 1 0 " + what, x.race(1, 0, 0, 7, what), due[2 - what]);
        }
        // CHAIN 1 is NEVER from 3993 on, CHAIN 0 from 3995 on.
        due("NEVER is behind", x.race(0, 1, 3993, 3999, 0), 2);
        due("NEVER and NEVER", x.race(0, 1, 3993, 3999, 1), 5);
        due("NEVER is behind", x.race(1, 0, 3993, 3999, 2), 2);
        due("100 DAYS", x.race(0, 0, 0, 99, 1), 100);
        due("101 DAYS", x.race(0, 0, 0, 100, 1), NONE);
        due("last ahead of first", x.race(0, 0, 1, 0, 1), NONE);
        due("DAY 4000", x.race(0, 0, 3999, 4000, 1), NONE);
        due("DAY -1", x.race(0, 0, -1, 0, 1), NONE);
        due("what 3", x.race(0, 0, 0, 0, 3), NONE);
        due("what -1", x.race(0, 0, 0, 0, -1), NONE);
        due("no such chain", x.race(2, 0, 0, 0, 0), NONE);
        due("no such other one", x.race(0, 2, 0, 0, 0), NONE);
    }

    private static void lastAndSlack() {
        CHECK.part("27 last, 28 slack");
        NoticeDesk x = withChain();
        int[][] rows = {{4, NONE}, {5, 0}, {6, 0}, {7, 0}, {8, 3}, {9, 4}, {12, 7}, {3999, 3994}};
        for (int[] row : rows) {
            due("last " + row[0], x.last(0, row[0]), row[1]);
        }
        due("slack 1 8", x.slack(0, 1, 8), 2);
        due("slack 3 8", x.slack(0, 3, 8), 0);
        due("slack 9 8", x.slack(0, 9, 8), -6);
        due("LAST is none", x.slack(0, 0, 4), HIDDEN);
        Check.land(x, 1, OTHER);
        Check.way(x, 1, "there");
        Check.chain(x, 1, "by 1 from 1 to 0 wait 0 days at 2");
        due("DAY 0 is NEVER, DAY 1 is served on 0", x.last(1, 0), 1);
        Check.chain(x, 1, "by 1 from 1 to 0 wait 0 days at 9");
        due("the last of all", x.last(1, 3999), 3999);
        Check.land(x, 0, "rest 0");
        Check.way(x, 1, "back");
        Check.chain(x, 1, "by 1 from 0 to 0 wait 0 days at 2");
        due("none but NEVER", x.last(1, 0), NONE);
        due("DAY 7 goes back to 6", x.last(1, 6), 7);
        due("no such chain", x.last(2, 0), -2);
        due("DAY 4000", x.last(0, 4000), -2);
        due("DAY -1", x.last(0, -1), -2);
        due("no such chain", x.slack(2, 0, 8), HIDDEN);
        due("DAY 4000 begun", x.slack(0, 4000, 8), HIDDEN);
        due("DAY -1 begun", x.slack(0, -1, 8), HIDDEN);
        due("for DAY 4000", x.slack(0, 0, 4000), HIDDEN);
    }

    private static void costs() {
        CHECK.part("29 cost");
        NoticeDesk x = withChain();
        Check.land(x, 0, "once 7");
        due("begun on 1 it ends a day later", x.ends(0, 1), 9);
        due("its cost", x.cost(0, 1, 0, 7), 1);
        due("the calendar stays", x.day(0, 7), 2);
        due("the chain too", x.ends(0, 1), 9);
        due("begun on 4 it matters not", x.cost(0, 4, 0, 7), 0);
        Check.land(x, 1, "once 7");
        due("of the other land", x.cost(0, 1, 1, 7), 0);
        due("of rest", x.cost(0, 1, 0, 6), HIDDEN);
        due("a workday", x.cost(0, 1, 0, 8), HIDDEN);
        due("DAY -1", x.cost(0, 1, 0, -1), HIDDEN);
        due("DAY 4000", x.cost(0, 1, 0, 4000), HIDDEN);
        due("LAND 2", x.cost(0, 1, 2, 7), HIDDEN);
        due("LAND -1", x.cost(0, 1, -1, 7), HIDDEN);
        due("begun on -1", x.cost(0, -1, 0, 7), HIDDEN);
        due("begun on 4000", x.cost(0, 4000, 0, 7), HIDDEN);
        due("no such chain", x.cost(1, 1, 0, 7), HIDDEN);
        Check.land(x, 0, "once 4");
        Check.way(x, 1, "back");
        Check.chain(x, 1, "by 1 from 0 to 0 wait 0 days at 9");
        due("a holiday that makes it earlier", x.cost(1, 5, 0, 4), -1);
        Check.land(x, 0, "once 0");
        due("NEVER below DAY 0 counts as 4000, too", x.cost(1, 0, 0, 0), 4000);
        Check.land(x, 0, "once 3999");
        Check.way(x, 1, "begin");
        Check.chain(x, 1, "by 1 from 0 to 0 wait 1 work at 9");
        due("NEVER counts as 4000", x.cost(1, 3998, 0, 3999), 1);
        Check.land(x, 0, "once 5;moved");
        due("the holiday that was moved to 7", x.cost(1, 4, 0, 7), 1);
        Check.land(x, 0, "once 7;once 8");
        due("two holidays, the first", x.cost(1, 4, 0, 7), 2);
        due("two holidays, the other", x.cost(1, 4, 0, 8), 1);
    }

    private static void dearestIs(NoticeDesk x, int chain, int begun, int... due) {
        for (int what = 0; what < 3; what++) {
            due("dearest " + what, x.dearest(chain, begun, what), due[what]);
        }
    }

    private static void dearest() {
        CHECK.part("30 dearest");
        NoticeDesk x = new NoticeDesk();
        Check.way(x, 0, "begin");
        Check.chain(x, 0, "by 0 from 0 to 0 wait 1 work at 0");
        due("no holidays", x.dearest(0, 4, 0), NONE);
        Check.land(x, 0, "once 7;once 8;once 9;once 14");
        dearestIs(x, 0, 4, 0, 7, 3);
        dearestIs(x, 0, 11, 0, 14, 1);
        dearestIs(x, 0, 0, NONE, NONE, NONE);
        dearestIs(x, 0, 3999, -2, -2, -2);
        due("what 3", x.dearest(0, 4, 3), -2);
        due("what -1", x.dearest(0, 4, -1), -2);
        due("no such chain", x.dearest(1, 4, 0), -2);
        due("DAY 4000", x.dearest(0, 4000, 0), -2);
        due("DAY -1", x.dearest(0, -1, 0), -2);
        Check.way(x, 0, "back");
        Check.chain(x, 0, "by 0 from 0 to 0 wait 0 days at 0");
        dearestIs(x, 0, 9, NONE, NONE, NONE);
    }

    private static void dearestOfSeveral() {
        CHECK.part("30 dearest, of several");
        NoticeDesk x = new NoticeDesk();
        Check.way(x, 0, "begin");
        Check.land(x, 0, "once 7;once 8");
        Check.chain(x, 0, "by 0 from 0 to 0 wait 2 work at 0");
        dearestIs(x, 0, 4, 0, 7, 1);
        // From 4 a workday of LAND 1: 8; two of LAND 0: 11. Each of both holidays costs a day.
        Check.land(x, 0, "once 9");
        Check.land(x, 1, "once 7");
        Check.chain(x, 0, "by 0 from 1 to 0 wait 1 work at 0;by 0 from 0 to 0 wait 2 work at 0");
        dearestIs(x, 0, 4, 1, 7, 1);
        // From 5 to 8 by LAND 0, that is noon of 7 there, 8 by LAND 1, 12, 13. Without LAND 0's: 7, noon of 6, noon of
        // 10, 11. Without LAND 1's: noon of 7, noon of 11.
        Check.land(x, 0, "once 7");
        Check.land(x, 1, "zone - 12;rest 3 5;once 7");
        Check.way(x, 0, "roll there roll days 4 roll");
        Check.chain(x, 0, "by 0 from 0 to 1 wait 0 days at 0");
        due("LAND 0", x.cost(0, 5, 0, 7), 2);
        due("LAND 1", x.cost(0, 5, 1, 7), 2);
        dearestIs(x, 0, 5, 0, 7, 2);
    }

    private static void send() {
        CHECK.part("31 send");
        NoticeDesk x = withOther();
        due("no way", x.send(0, 0, 0, NONE), NONE);
        Check.way(x, 0, "days 2 there");
        due("the first one", x.send(0, 0, 1, 5), 0);
        x.pass(20);
        due("the second one", x.send(0, 1, 1, NONE), 1);
        int[][] due = {{0, 0, 1, 0, 2, 5, 0, 1}, {0, 1, 1, 20, 2, NONE, 0, 1}};
        for (int i = 0; i < due.length; i++) {
            for (int what = 0; what < 8; what++) {
                due("notice " + i + " " + what, x.notice(i, what), due[i][what]);
            }
        }
        due("LAND 2", x.send(0, 2, 0, NONE), NONE);
        due("LAND -1", x.send(0, 0, -1, NONE), NONE);
        due("TERM -2", x.send(0, 0, 0, -2), NONE);
        due("TERM 4000", x.send(0, 0, 0, 4000), NONE);
        due("STATUS 0", x.status(0), 1);
        due("STATUS 1", x.status(1), 4);
        due("no such way goes first", x.send(8, 2, 0, 4000), NONE);
        due("STATUS 0", x.status(0), 2);
        for (int i = 2; i < 12; i++) {
            due("one more", x.send(0, 0, 0, 3999), i);
        }
        due("there are 12", x.send(0, 0, 0, 0), NONE);
        due("STATUS 2", x.status(2), 1);
        due("out of bounds goes first", x.send(0, 0, 2, 0), NONE);
        due("STATUS 1", x.status(1), 5);
        neverSent();
    }

    private static void neverSent() {
        NoticeDesk x = new NoticeDesk();
        Check.land(x, 1, "zone - 5");
        Check.way(x, 0, "here");
        due("SENT is OUT by here", x.send(0, 1, 0, NONE), NONE);
        due("STATUS 3", x.status(3), 1);
        due("by the other land", x.send(0, 0, 1, NONE), 0);
        x.pass(5);
        due("in", x.send(0, 1, 0, NONE), 1);
        for (int i = 0; i < 10; i++) {
            x.pass(9598);
        }
        x.pass(14);
        due("the last hour", x.now(0), 95999);
        due("in", x.send(0, 0, 0, NONE), 2);
        Check.way(x, 1, "hours 1");
        due("NEVER", x.send(1, 0, 0, NONE), NONE);
        due("STATUS 3", x.status(3), 2);
        for (int i = 3; i < 12; i++) {
            x.send(0, 0, 0, NONE);
        }
        due("there are 12 goes first", x.send(1, 0, 0, NONE), NONE);
        due("STATUS 2", x.status(2), 1);
    }

    private static void withdraw() {
        CHECK.part("32 withdraw");
        NoticeDesk x = new NoticeDesk();
        for (int way = 0; way < 4; way++) {
            Check.way(x, way, "days " + (way + 1));
            x.send(way, 0, 1, way == 3 ? 0 : NONE);
        }
        due("no NOTICE 4", x.withdraw(4), NONE);
        due("no NOTICE -1", x.withdraw(-1), NONE);
        due("STATUS 0", x.status(0), 2);
        due("three are left", x.withdraw(1), 3);
        due("the one ahead", x.notice(0, 0), 0);
        due("those behind", x.notice(1, 0), 2);
        due("those behind", x.notice(2, 0), 3);
        x.pass(24);
        due("it is served", x.withdraw(0), NONE);
        due("STATUS 3", x.status(3), 1);
        due("its term is over", x.notice(2, 6), 3);
        due("it is on its way", x.withdraw(2), 2);
        due("and another one", x.withdraw(1), 1);
        for (int i = 1; i < 12; i++) {
            x.send(i % 4, 1, 0, i);
        }
        due("the second of twelve", x.withdraw(1), 11);
        for (int i = 1; i < 11; i++) {
            due("TERM " + i, x.notice(i, 5), i + 1);
            due("WAY " + i, x.notice(i, 0), (i + 1) % 4);
        }
        due("the last of all", x.withdraw(10), 10);
    }

    private static void pass() {
        CHECK.part("33 pass");
        NoticeDesk x = new NoticeDesk();
        due("0", x.pass(0), NONE);
        due("-1", x.pass(-1), NONE);
        due("10000", x.pass(10000), NONE);
        due("the most", x.pass(Integer.MAX_VALUE), NONE);
        due("the least", x.pass(Integer.MIN_VALUE), NONE);
        due("STATUS 1", x.status(1), 5);
        due("1", x.pass(1), 1);
        for (int i = 1; i <= 9; i++) {
            due("9999", x.pass(9999), 9999 * i + 1);
        }
        due("beyond", x.pass(6008), NONE);
        due("to the end", x.pass(6007), 95999);
        due("beyond", x.pass(1), NONE);
        due("STATUS 1", x.status(1), 7);
    }

    private static void states() {
        CHECK.part("34 notice");
        NoticeDesk x = new NoticeDesk();
        Check.way(x, 0, "days 3");
        x.send(0, 0, 1, NONE);
        x.send(0, 0, 1, 3);
        x.send(0, 0, 1, 2);
        x.send(0, 0, 1, 0);
        int[][] due = {{0, 0, 0, 0}, {0, 0, 0, 3}, {0, 0, 0, 3}, {1, 1, 2, 2}, {1, 1, 2, 2}};
        for (int day = 0; day < due.length; day++) {
            for (int i = 0; i < 4; i++) {
                due("DAY " + day + ", NOTICE " + i, x.notice(i, 6), due[day][i]);
            }
            x.pass(23);
            for (int i = 0; i < 4; i++) {
                due("DAY " + day + ", its last hour, NOTICE " + i, x.notice(i, 6), due[day][i]);
            }
            x.pass(1);
        }
        CHECK.dueThrows("NOTICE 4", x, 4, 0);
        CHECK.dueThrows("NOTICE -1", x, -1, 0);
        CHECK.dueThrows("what 8", x, 0, 8);
        CHECK.dueThrows("what -1", x, 0, -1);
        CHECK.dueThrows("none at all", new NoticeDesk(), 0, 0);
    }

    private static void statesByClocks() {
        CHECK.part("34 notice, by the land's clock");
        NoticeDesk x = withOther();
        Check.way(x, 0, "there days 1");
        Check.way(x, 1, "there days 1 here");
        x.send(0, 0, 1, 0);
        x.send(1, 0, 1, 0);
        x.send(0, 0, 0, NONE);
        int[] lands = {1, 0, 0};
        for (int i = 0; i < 3; i++) {
            due("the land in the end", x.notice(i, 7), lands[i]);
        }
        x.pass(21);
        due("DAY 1 there", x.notice(0, 6), 2);
        due("DAY 0 here", x.notice(1, 6), 0);
        Check.way(x, 0, "days 9");
        Check.land(x, 1, "rest 0 1 2 3 4 5");
        due("what was served stays", x.notice(0, 4), 1);
        due("its land too", x.notice(0, 7), 1);
        due("by the clock as it is now", x.notice(0, 6), 0);
        x.pass(3);
        due("DAY 1", x.notice(0, 6), 2);
        due("DAY 1", x.notice(1, 6), 2);
        due("DAY 1", x.notice(2, 6), 1);
    }

    private static void dueOrder() {
        CHECK.part("35 due");
        NoticeDesk x = new NoticeDesk();
        due("none", x.due(0), NONE);
        int[] days = {5, 2, 9, 2, 5};
        for (int i = 0; i < days.length; i++) {
            Check.way(x, 0, "days " + days[i]);
            x.send(0, 0, 0, NONE);
        }
        int[] order = {1, 3, 0, 4, 2};
        for (int n = 0; n < order.length; n++) {
            due("due " + n, x.due(n), order[n]);
        }
        due("due 5", x.due(5), NONE);
        due("due -1", x.due(-1), NONE);
        x.pass(100);
        due("served ones too", x.due(0), 1);
    }

    private static void lateDays() {
        CHECK.part("36 late");
        NoticeDesk x = new NoticeDesk();
        Check.way(x, 0, "days 3");
        x.send(0, 0, 0, 1);
        x.send(0, 0, 0, 3);
        x.send(0, 0, 0, NONE);
        x.send(0, 0, 0, 0);
        x.pass(71);
        due("not served yet", x.late(0), 0);
        due("not served yet", x.late(1), 0);
        x.pass(1);
        due("2 and 3", x.late(0), 5);
        due("the most", x.late(1), 3);
        due("what 2", x.late(2), NONE);
        due("what -1", x.late(-1), NONE);
    }

    private static void now() {
        CHECK.part("37 now");
        NoticeDesk x = new NoticeDesk();
        Check.way(x, 6, "days 3");
        Check.way(x, 1, "days 1");
        Check.chain(x, 3, "by 6 from 0 to 0 wait 0 days at 0");
        x.send(6, 0, 0, NONE);
        x.send(6, 0, 0, 0);
        x.send(1, 0, 0, NONE);
        x.send(1, 0, 0, 0);
        x.send(1, 0, 0, 9);
        due("the first one's way", x.notice(0, 0), 6);
        nowIs(x, 0, 5, 5, 0, 0, 0, 2, 66, 8);
        x.pass(25);
        nowIs(x, 25, 5, 1, 2, 1, 1, 0, 66, 8);
        x.withdraw(0);
        nowIs(x, 25, 4, 0, 2, 1, 1, 0, 66, 8);
        x.pass(50);
        nowIs(x, 75, 4, 0, 2, 2, 0, NONE, 66, 8);
        due("what 9", x.now(9), NONE);
        due("what -1", x.now(-1), NONE);
    }

    private static void nowIs(NoticeDesk x, int... due) {
        for (int what = 0; what < due.length; what++) {
            due("now " + what, x.now(what), due[what]);
        }
    }

    private static void undo() {
        CHECK.part("38 undo");
        NoticeDesk x = new NoticeDesk();
        Check.way(x, 0, "days 3");
        Check.way(x, 1, "days 4");
        x.send(0, 0, 0, 7);
        x.send(1, 0, 0, 8);
        x.pass(5);
        x.withdraw(0);
        x.pass(10000);
        due("a refused one is no act", x.count(1), 4);
        due("withdrawn again there", x.undo(), 3);
        due("two", x.now(1), 2);
        due("in its place", x.notice(0, 0), 0);
        due("its term", x.notice(0, 5), 7);
        due("the other one", x.notice(1, 0), 1);
        due("the clock", x.undo(), 2);
        due("is 0", x.now(0), 0);
        due("sent no more", x.undo(), 1);
        due("one", x.now(1), 1);
        due("sent no more", x.undo(), 0);
        due("none", x.now(1), 0);
        due("no act", x.undo(), NONE);
        due("a refusal stays", x.status(1), 1);
        due("ways stay", x.now(7), 3);
        for (int i = 1; i <= 15; i++) {
            x.pass(i);
            due("acts", x.count(1), Math.min(i, 12));
        }
        int clock = 120;
        for (int i = 15; i > 3; i--) {
            due("still", x.undo(), i - 4);
            clock -= i;
            due("clock", x.now(0), clock);
        }
        due("the latest 12 alone", x.undo(), NONE);
        due("clock", x.now(0), 6);
        x.pass(1);
        due("a new act", x.undo(), 0);
        due("clock", x.now(0), 6);
    }

    private static void images() {
        CHECK.part("39 image, 40 back");
        NoticeDesk x = new NoticeDesk();
        due("no image", x.back(), NONE);
        Check.way(x, 0, "days 3");
        x.send(0, 0, 0, 7);
        x.pass(5);
        due("image", x.image(), 5);
        due("it is no act", x.count(1), 2);
        x.pass(6);
        x.withdraw(0);
        x.send(0, 1, 0, 9);
        x.send(0, 1, 0, 9);
        due("back", x.back(), 5);
        due("clock", x.now(0), 5);
        due("one", x.now(1), 1);
        due("as it was", x.notice(0, 5), 7);
        due("no act can be undone", x.count(1), 0);
        due("no act can be undone", x.undo(), NONE);
        x.pass(1);
        due("and again", x.back(), 5);
        x.pass(2);
        due("another image", x.image(), 7);
        x.withdraw(0);
        due("undone", x.undo(), 1);
        due("and the act ahead of the image", x.undo(), 0);
        due("clock", x.now(0), 5);
        due("back to the other one", x.back(), 7);
        x.pass(20000);
        due("STATUS stays", x.back(), 7);
        due("STATUS 1", x.status(1), 1);
    }

    private static void written() {
        CHECK.part("41 written");
        NoticeDesk x = new NoticeDesk();
        due("no such way", x.written(0, NONE), NONE);
        due("no such way", x.written(0, 0), NONE);
        Check.way(x, 3, "  days05   work 60hours0 here there office roll back begin end hours 10 days 9 ");
        String text = "days 5 work 60 hours 0 here there office roll back begin end hours 10 days 9";
        due("length", x.written(3, NONE), text.length());
        for (int k = 0; k < text.length(); k++) {
            due("byte " + k, x.written(3, k), text.charAt(k));
        }
        due("behind it", x.written(3, text.length()), NONE);
        due("k -2", x.written(3, -2), NONE);
        due("WAY 8", x.written(8, NONE), NONE);
        due("WAY -1", x.written(-1, NONE), NONE);
        Check.way(x, 3, "hours 99 ".repeat(12));
        due("the longest", x.written(3, NONE), 107);
        due("its last byte", x.written(3, 106), '9');
        Check.way(x, 3, "end");
        due("another one", x.written(3, NONE), 3);
        due("no more", x.written(3, 3), NONE);
    }

    private static void status() {
        CHECK.part("42 status");
        NoticeDesk x = new NoticeDesk();
        for (int what = 0; what < 4; what++) {
            due("status " + what, x.status(what), 0);
        }
        due("status 4", x.status(4), NONE);
        due("status -1", x.status(-1), NONE);
        x.undo();
        x.back();
        x.land(7);
        x.way(9);
        x.chain(9);
        x.feed(0, 0, 0, 0, 0);
        for (int what = 0; what < 4; what++) {
            due("no acts, status " + what, x.status(what), 0);
        }
    }

    private static void most() {
        CHECK.part("43 most");
        NoticeDesk x = withOther();
        // LAND 0: 0-4 7-11 14-18 ..; LAND 1: 0 1 3 6-10 13-17 20-24 ..
        due("LAND 0", x.most(0, 0), 5);
        due("LAND 1", x.most(0, 1), 5);
        due("both", x.most(0, 2), 4);
        due("none", x.most(0, 4), 1);
        // Of 0 to 59: weekday 4 (8 of them), weekday 6 (8), DAY 2.
        due("just one", x.most(0, 3), 17);
        due("the last two days", x.most(3998, 0), 2);
        due("the last day", x.most(3999, 2), 1);
        due("the last day", x.most(3999, 3), 0);
        due("the last day", x.most(3999, 4), 0);
        Check.land(x, 1, "rest 0;once 61;once 59");
        due("60 of them: 0 to 59, of rest 0 .. 56", x.most(57, 1), 6);
        due("one of LAND 1", x.most(5, 1), 6);
        Check.land(x, 0, "rest 0 1 2 3 4 5");
        Check.land(x, 1, "rest 0 1 2 3 4 5");
        due("a row of none", x.most(0, 4), 6);
        due("no two", x.most(0, 2), 1);
        due("none of one alone", x.most(0, 3), 0);
        Check.land(x, 1, "rest 6;once 60;once 62");
        due("how many, from 0 to 59", x.most(0, 3), 60);
        due("how many, from 1 to 60", x.most(1, 3), 59);
        due("DAY -1", x.most(-1, 0), NONE);
        due("DAY 4000", x.most(4000, 0), NONE);
        due("what 5", x.most(0, 5), NONE);
        due("what -1", x.most(0, -1), NONE);
    }

    private static void counts() {
        CHECK.part("44 count");
        NoticeDesk x = new NoticeDesk();
        x.feed(0x61626364, 0, 0, 0, 0x65);
        due("bytes", x.count(0), 5);
        x.pass(3);
        due("acts", x.count(1), 1);
        x.undo();
        due("acts", x.count(1), 0);
        due("what 2", x.count(2), NONE);
        due("what -1", x.count(-1), NONE);
    }
}
