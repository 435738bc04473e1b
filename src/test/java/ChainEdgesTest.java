/**
 * The edges of chains (promises 23 to 30, what Terms say of STAGES), each sentence of the document by a test of its own
 * that bears the sentence as its name.
 */
public final class ChainEdgesTest {
    private static final int NONE = NoticeDesk.NONE;
    private static final int HIDDEN = NoticeDesk.HIDDEN;
    private static final int NO_SUCH = -2;
    private static final int LEAST = Integer.MIN_VALUE;
    private static final int MOST = Integer.MAX_VALUE;
    private static final int[] NO_DAYS = {-1, 4000, LEAST, MOST};
    private static final int[] NO_LANDS = {-1, 2, LEAST, MOST};
    // CHAIN 5 is never told in these tests.
    private static final int[] NO_CHAINS = {5, 6, -1, LEAST, MOST};
    private static final Check CHECK = new Check();

    private ChainEdgesTest() { }

    public static void main(String[] args) {
        waits();
        ends();
        stage();
        quick();
        race();
        last();
        slack();
        cost();
        dearest();
        CHECK.close();
    }

    private static void due(String call, long got, long want) {
        CHECK.due(call, got, want);
    }

    /** A desk with plain lands, WAY 0 that is served at once, and these chains. */
    private static NoticeDesk atOnce(String... chains) {
        return Check.chains(Check.desk("", "", "here"), chains);
    }

    private static String wait(String waits) {
        return "by 0 from 0 to 0 wait " + waits + " at 9";
    }

    /** On which days the stages are sent and served. */
    private static void stagesAre(NoticeDesk x, int chain, int begun, int... due) {
        for (int i = 0; i < due.length; i++) {
            due("stage " + chain + " " + begun + " " + i / 2 + " " + i % 2, x.stage(chain, begun, i / 2, i % 2), due[i]);
        }
    }

    // ---- waits

    private static void waits() {
        waitDays();
        waitWork();
        waitWorkOfTheLand();
        waitBehindServed();
        sentByTheClock();
        wayAsItIs();
    }

    private static void waitDays() {
        CHECK.part("Terms: wait N days: N DAYS behind");
        NoticeDesk x = atOnce(wait("0 days"), wait("1 days"), wait("99 days"));
        stagesAre(x, 0, 0, 0, 0);
        stagesAre(x, 0, 5, 5, 5);
        stagesAre(x, 0, 3999, 3999, 3999);
        stagesAre(x, 1, 4, 5, 5);
        stagesAre(x, 1, 3998, 3999, 3999);
        stagesAre(x, 2, 0, 99, 99);
        stagesAre(x, 2, 3900, 3999, 3999);
    }

    private static void waitWork() {
        CHECK.part("Terms: work: N WORKDAYS of the LAND from which behind it (0: that DAY itself, whatever it is)");
        NoticeDesk x = atOnce(wait("0 work"), wait("1 work"), wait("99 work"));
        Check.land(x, 0, "once 7");
        stagesAre(x, 0, 4, 4, 4);
        stagesAre(x, 0, 5, 5, 5);
        stagesAre(x, 0, 7, 7, 7);
        stagesAre(x, 0, 3999, 3999, 3999);
        stagesAre(x, 1, 0, 1, 1);
        stagesAre(x, 1, 4, 8, 8);
        stagesAre(x, 1, 5, 8, 8);
        stagesAre(x, 1, 7, 8, 8);
        stagesAre(x, 1, 3998, 3999, 3999);
        // 99 are 19 weeks and 4 days.
        stagesAre(x, 2, 10, 10 + 133 + 6, 10 + 133 + 6);
        stagesAre(x, 2, 3860, 3999, 3999);
        stagesAre(x, 2, 3861, NONE, NONE);
    }

    private static void waitWorkOfTheLand() {
        CHECK.part("Terms: WORKDAYS of the LAND from which, at the hour told, by its clock");
        NoticeDesk x = Check.desk("rest 1 2 3", "rest 4 5 6", "there");
        Check.chains(x, "by 0 from 0 to 1 wait 1 work at 0", "by 0 from 1 to 0 wait 1 work at 0",
            "by 0 from 1 to 0 wait 1 work at 0;by 0 from 0 to 1 wait 1 work at 0");
        stagesAre(x, 0, 0, 4, 4);
        stagesAre(x, 1, 0, 1, 1);
        stagesAre(x, 2, 0, 1, 1, 4, 4);
    }

    private static void waitBehindServed() {
        CHECK.part("Terms: each later one on the SERVED DAY of the one ahead and its wait");
        NoticeDesk x = Check.desk("", "zone 12", "there", "days 2");
        Check.chains(x, "by 0 from 0 to 1 wait 0 days at 12;by 0 from 1 to 0 wait 0 days at 11",
            "by 1 from 0 to 0 wait 3 days at 0;by 1 from 0 to 0 wait 0 work at 0;by 1 from 0 to 0 wait 1 work at 0");
        stagesAre(x, 0, 5, 5, 6, 6, 5);
        stagesAre(x, 1, 0, 3, 5, 5, 7, 8, 10);
        String stage = "by 1 from 0 to 0 wait 1 days at 0";
        due("six stages", Check.chain(x, 2, (stage + ";").repeat(5) + stage), 6);
        stagesAre(x, 2, 0, 1, 3, 4, 6, 7, 9, 10, 12, 13, 15, 16, 18);
        due("ends", x.ends(2, 0), 18);
    }

    private static void sentByTheClock() {
        CHECK.part("Terms: at the hour told (0 to 23)");
        NoticeDesk x = Check.desk("", "zone 1", "there");
        Check.chains(x, "by 0 from 0 to 1 wait 0 days at 22", "by 0 from 0 to 1 wait 0 days at 23",
            "by 0 from 1 to 0 wait 0 days at 0", "by 0 from 1 to 0 wait 0 days at 1");
        int[] due = {7, 8, 6, 7};
        for (int chain = 0; chain < 4; chain++) {
            due("chain " + chain, x.ends(chain, 7), due[chain]);
        }
    }

    private static void wayAsItIs() {
        CHECK.part("Terms: by N (a WAY that there is)");
        NoticeDesk x = atOnce(wait("0 days"));
        Check.way(x, 0, "days 3");
        due("as it is told now", x.ends(0, 0), 3);
        due("a fault changes nothing", Check.way(x, 0, "days 300"), NONE);
        due("as it is told now", x.ends(0, 0), 3);
    }

    // ---- promises 23, 24

    private static void ends() {
        endsNever();
        endsNoSuch();
    }

    private static void endsNever() {
        CHECK.part("Terms: NEVER, if one is, or a DAY is above 3999");
        NoticeDesk x = Check.desk("", "zone - 5", "here", "days 1", "there");
        Check.chains(x, wait("99 days"), wait("1 work"), "by 1 from 0 to 0 wait 0 days at 0;" + wait("0 days"),
            "by 2 from 0 to 1 wait 0 days at 4;by 1 from 1 to 0 wait 5 days at 0",
            "by 1 from 0 to 0 wait 0 days at 0;" + wait("1 days"));
        due("99 days behind 3900", x.ends(0, 3900), 3999);
        due("99 days behind 3901", x.ends(0, 3901), NONE);
        due("99 days behind 3999", x.ends(0, 3999), NONE);
        due("a WORKDAY behind 3998", x.ends(1, 3998), 3999);
        due("a WORKDAY behind 3999", x.ends(1, 3999), NONE);
        due("the first is NEVER", x.ends(2, 3999), NONE);
        due("it is not", x.ends(2, 3998), 3999);
        due("the first is NEVER below DAY 0", x.ends(3, 0), NONE);
        due("it is not", x.ends(3, 1), 6);
        due("the second one's DAY is above 3999", x.ends(4, 3998), NONE);
        due("it is not", x.ends(4, 3997), 3999);
    }

    private static void endsNoSuch() {
        CHECK.part("23: -2: no such ones");
        NoticeDesk x = atOnce(wait("0 days"));
        due("DAY 0", x.ends(0, 0), 0);
        due("DAY 3999", x.ends(0, 3999), 3999);
        for (int chain : NO_CHAINS) {
            due("chain " + chain, x.ends(chain, 0), NO_SUCH);
        }
        for (int day : NO_DAYS) {
            due("day " + day, x.ends(0, day), NO_SUCH);
        }
    }

    private static void stage() {
        stageByThen();
        stageNoSuch();
    }

    private static void stageByThen() {
        CHECK.part("24: NONE: NEVER by then");
        NoticeDesk x = Check.desk("", "zone - 5", "days 1", "there");
        Check.chains(x, "by 0 from 0 to 0 wait 1 days at 0;by 0 from 0 to 0 wait 1 work at 0",
            "by 1 from 0 to 1 wait 0 days at 4;by 0 from 1 to 0 wait 0 days at 0");
        stagesAre(x, 0, 3995, 3996, 3997, 3998, 3999);
        stagesAre(x, 0, 3996, 3997, 3998, 3999, NONE);
        stagesAre(x, 0, 3997, 3998, 3999, NONE, NONE);
        stagesAre(x, 0, 3998, 3999, NONE, NONE, NONE);
        stagesAre(x, 0, 3999, NONE, NONE, NONE, NONE);
        stagesAre(x, 1, 0, 0, NONE, NONE, NONE);
        stagesAre(x, 1, 1, 1, 0, 0, 1);
    }

    private static void stageNoSuch() {
        CHECK.part("24: -2: no such ones");
        NoticeDesk x = atOnce(wait("99 days") + ";" + wait("0 days"));
        for (int k : new int[] {-1, 2, 5, 6, LEAST, MOST}) {
            due("k " + k, x.stage(0, 0, k, 0), NO_SUCH);
            due("k " + k + " where it is NEVER", x.stage(0, 3999, k, 0), NO_SUCH);
        }
        for (int what : new int[] {-1, 2, LEAST, MOST}) {
            due("what " + what, x.stage(0, 0, 0, what), NO_SUCH);
            due("what " + what + " where it is NEVER", x.stage(0, 3999, 0, what), NO_SUCH);
        }
        for (int chain : NO_CHAINS) {
            due("chain " + chain, x.stage(chain, 0, 0, 0), NO_SUCH);
        }
        for (int day : NO_DAYS) {
            due("day " + day, x.stage(0, day, 0, 0), NO_SUCH);
        }
    }

    // ---- promise 25

    private static void quick() {
        quickWay();
        quickNever();
        quickNoSuch();
    }

    private static void quickWay() {
        CHECK.part("Terms: QUICK: by the WAY told that is SERVED first then (of several the lowest) in place of its own");
        NoticeDesk x = Check.desk("", "", "days 9", "days 3", "work 2", "days 3");
        Check.chains(x, "by 0 from 0 to 0 wait 1 days at 0;by 0 from 0 to 0 wait 0 days at 0");
        // Begun on 0: sent on 1, on 3 by WAY 2; sent on 3, on 6 by WAY 1 (on 7 by 2, on 6 by 3 too).
        due("ENDS", x.quick(0, 0, NONE), 6);
        due("STAGE 0", x.quick(0, 0, 0), 2);
        due("STAGE 1", x.quick(0, 0, 1), 1);
        due("by its own", x.ends(0, 0), 19);
        Check.way(x, 7, "here");
        due("the highest of all", x.quick(0, 0, 0), 7);
        due("all else as it is: the wait", x.quick(0, 0, NONE), 1);
        Check.way(x, 0, "hours 9");
        due("its own, the lowest", x.quick(0, 0, 0), 0);
    }

    private static void quickNever() {
        CHECK.part("25: NONE: NEVER (by then)");
        NoticeDesk x = Check.desk("", "zone - 5", "days 2", "days 1");
        Check.chains(x, "by 0 from 0 to 0 wait 1 days at 0;by 0 from 0 to 0 wait 0 days at 0");
        int[][] rows = {{3996, 3999, 1, 1}, {3997, NONE, 1, NONE}, {3998, NONE, NONE, NONE}, {3999, NONE, NONE, NONE}};
        for (int[] row : rows) {
            due("ENDS " + row[0], x.quick(0, row[0], NONE), row[1]);
            due("STAGE 0 " + row[0], x.quick(0, row[0], 0), row[2]);
            due("STAGE 1 " + row[0], x.quick(0, row[0], 1), row[3]);
        }
        Check.chains(x, wait("0 days") + ";" + wait("1 days") + ";" + wait("1 work"));
        int[][] ways = {{3994, 1, 1, 1}, {3995, 1, 1, NONE}, {3996, 1, 1, NONE}, {3997, 1, NONE, NONE},
            {3998, 1, NONE, NONE}, {3999, NONE, NONE, NONE}};
        for (int[] row : ways) {
            for (int k = 0; k < 3; k++) {
                due("STAGE " + k + " " + row[0], x.quick(0, row[0], k), row[k + 1]);
            }
        }
        Check.way(x, 0, "there");
        Check.chains(x, "by 1 from 0 to 1 wait 0 days at 4");
        CHECK.part("Terms: QUICK: what is NEVER below DAY 0 is not the first");
        due("WAY 0 is NEVER", x.quick(0, 0, 0), 1);
        due("ENDS", x.quick(0, 0, NONE), 1);
        due("WAY 0 is not", x.quick(0, 1, 0), 0);
        Check.way(x, 1, "there");
        due("both are", x.quick(0, 0, 0), NONE);
        due("ENDS", x.quick(0, 0, NONE), NONE);
    }

    private static void quickNoSuch() {
        CHECK.part("25: -2: no such ones");
        NoticeDesk x = atOnce(wait("99 days") + ";" + wait("0 days"));
        due("k NONE", x.quick(0, 0, -1), 99);
        due("k 1", x.quick(0, 0, 1), 0);
        for (int k : new int[] {-2, 2, 6, LEAST, MOST}) {
            due("k " + k, x.quick(0, 0, k), NO_SUCH);
            due("k " + k + " where it is NEVER", x.quick(0, 3999, k), NO_SUCH);
        }
        for (int chain : NO_CHAINS) {
            due("chain " + chain, x.quick(chain, 0, NONE), NO_SUCH);
            due("chain " + chain, x.quick(chain, 0, 0), NO_SUCH);
        }
        for (int day : NO_DAYS) {
            due("day " + day, x.quick(0, day, NONE), NO_SUCH);
            due("day " + day, x.quick(0, day, 0), NO_SUCH);
        }
    }

    // ---- promise 26

    private static void race() {
        raceDays();
        raceNever();
        raceNone();
    }

    private static void raceIs(NoticeDesk x, int first, int last, int... due) {
        for (int what = 0; what < 3; what++) {
            due("race " + first + " " + last + " " + what, x.race(0, 1, first, last, what), due[what]);
            due("turned round " + first + " " + last + " " + what, x.race(1, 0, first, last, what), due[2 - what]);
        }
    }

    private static void raceDays() {
        CHECK.part("26: Begun on each DAY from a DAY to a DAY (last; 100 at most): ahead, alike, behind");
        // CHAIN 0 ends a workday behind, CHAIN 1 two days behind.
        NoticeDesk x = atOnce(wait("1 work"), wait("2 days"));
        raceIs(x, 0, 0, 1, 0, 0);
        raceIs(x, 4, 4, 0, 0, 1);
        raceIs(x, 5, 5, 0, 1, 0);
        raceIs(x, 0, 6, 5, 1, 1);
        raceIs(x, 4, 5, 0, 1, 1);
        raceIs(x, 0, 99, 72, 14, 14);
        due("101", x.race(0, 1, 0, 100, 0), NONE);
        due("101", x.race(0, 1, 3899, 3999, 0), NONE);
        due("all", x.race(0, 1, 0, 3999, 0), NONE);
        raceIs(x, 3898, 3997, 72, 14, 14);
    }

    private static void raceNever() {
        CHECK.part("26: NEVER is behind all, alike with NEVER");
        NoticeDesk x = Check.desk("", "zone - 5", "here", "there");
        Check.chains(x, wait("1 days"), wait("3 days"));
        raceIs(x, 3996, 3996, 1, 0, 0);
        raceIs(x, 3997, 3998, 2, 0, 0);
        raceIs(x, 3999, 3999, 0, 1, 0);
        raceIs(x, 3995, 3999, 4, 1, 0);
        Check.chains(x, "by 1 from 0 to 1 wait 0 days at 4");
        raceIs(x, 0, 0, 0, 0, 1);
        raceIs(x, 0, 1, 1, 0, 1);
        due("itself, NEVER below DAY 0", x.race(0, 0, 0, 0, 1), 1);
    }

    private static void raceNone() {
        CHECK.part("26: NONE: no such ones");
        NoticeDesk x = atOnce(wait("0 days"));
        due("100", x.race(0, 0, 3900, 3999, 1), 100);
        due("last ahead of first", x.race(0, 0, 1, 0, 1), NONE);
        due("they wrap around", x.race(0, 0, MOST, LEAST, 1), NONE);
        due("they wrap around", x.race(0, 0, LEAST, MOST, 1), NONE);
        for (int chain : NO_CHAINS) {
            due("one " + chain, x.race(chain, 0, 0, 0, 0), NONE);
            due("other " + chain, x.race(0, chain, 0, 0, 0), NONE);
        }
        for (int day : NO_DAYS) {
            due("first " + day, x.race(0, 0, day, 3, 1), NONE);
            due("last " + day, x.race(0, 0, 3998, day, 1), NONE);
            due("both " + day, x.race(0, 0, day, day, 1), NONE);
        }
        for (int what : new int[] {-1, 3, LEAST, MOST}) {
            due("what " + what, x.race(0, 0, 0, 0, what), NONE);
        }
    }

    // ---- promises 27, 28

    private static void last() {
        lastDay();
        lastNone();
        lastNoSuch();
    }

    private static void lastDay() {
        CHECK.part("Terms: LAST for a DAY: the last DAY begun so that it ENDS on that DAY or ahead of it");
        NoticeDesk x = Check.desk("", "zone 1", "here", "back", "there");
        Check.chains(x, wait("0 days"), wait("1 work"), "by 1 from 0 to 0 wait 0 days at 9", wait("99 days"),
            "by 2 from 1 to 0 wait 0 days at 0");
        int[][] rows = {{0, 0, 0}, {0, 3999, 3999}, {1, 1, 0}, {1, 4, 3}, {1, 6, 3}, {1, 7, 6}, {1, 3999, 3998}, {2, 4, 6},
            {2, 5, 6}, {2, 3999, 3999}, {3, 99, 0}, {3, 3999, 3900}, {4, 0, 1}, {4, 3998, 3999}, {4, 3999, 3999}};
        for (int[] row : rows) {
            due("last " + row[0] + " " + row[1], x.last(row[0], row[1]), row[2]);
        }
    }

    private static void lastNone() {
        CHECK.part("27: NONE: none");
        NoticeDesk x = Check.desk("rest 0", "zone - 5", "here", "back", "there");
        Check.chains(x, wait("1 work"), wait("99 days"), "by 1 from 0 to 0 wait 0 days at 9",
            "by 2 from 0 to 1 wait 0 days at 4");
        due("DAY 0", x.last(0, 0), NONE);
        due("DAY 1", x.last(0, 1), 0);
        due("DAY 98", x.last(1, 98), NONE);
        due("DAY 0 is NEVER, not ahead", x.last(2, 0), NONE);
        due("DAY 1", x.last(2, 1), 1);
        due("DAY 0 is NEVER, DAY 1 is SERVED on 0", x.last(3, 0), 1);
        Check.chains(x, "by 2 from 0 to 1 wait 0 days at 4;by 0 from 1 to 1 wait 9 days at 0");
        due("DAY 0 is NEVER, though it waits", x.last(0, 8), NONE);
        due("DAY 1", x.last(0, 9), 1);
    }

    private static void lastNoSuch() {
        CHECK.part("27: -2: no such ones");
        NoticeDesk x = atOnce(wait("0 days"));
        for (int chain : NO_CHAINS) {
            due("chain " + chain, x.last(chain, 0), NO_SUCH);
        }
        for (int day : NO_DAYS) {
            due("day " + day, x.last(0, day), NO_SUCH);
        }
    }

    private static void slack() {
        CHECK.part("Terms: SLACK of a DAY begun for a DAY: how many DAYS LAST is later (below 0, too)");
        NoticeDesk x = atOnce(wait("1 work"), wait("0 days"));
        due("later", x.slack(0, 0, 7), 6);
        due("the same", x.slack(0, 6, 7), 0);
        due("earlier", x.slack(0, 7, 7), -1);
        due("the most", x.slack(1, 0, 3999), 3999);
        due("the least", x.slack(1, 3999, 0), -3999);
        due("begun where it is NEVER", x.slack(0, 3999, 7), -3993);
        CHECK.part("28: HIDDEN: LAST is none, no such ones");
        due("LAST is none", x.slack(0, 0, 0), HIDDEN);
        due("LAST is DAY 0", x.slack(0, 0, 1), 0);
        for (int chain : NO_CHAINS) {
            due("chain " + chain, x.slack(chain, 0, 7), HIDDEN);
        }
        for (int day : NO_DAYS) {
            due("begun " + day, x.slack(0, day, 7), HIDDEN);
            due("for " + day, x.slack(0, 0, day), HIDDEN);
        }
    }

    // ---- promises 29, 30

    private static void cost() {
        costDays();
        costNever();
        costAllElse();
        costHidden();
    }

    private static void costDays() {
        CHECK.part("Terms: COST: how many DAYS earlier it would END if that DAY were a WORKDAY");
        NoticeDesk x = atOnce(wait("1 work"), wait("5 work"));
        Check.land(x, 0, "once 4;once 7;once 8;once 9;once 10;once 11");
        // Behind 3 the first workdays are 14 15 16 17 18.
        due("DAY 4", x.cost(0, 3, 0, 4), 10);
        due("DAY 7", x.cost(0, 3, 0, 7), 7);
        due("DAY 11", x.cost(0, 3, 0, 11), 3);
        due("each is one of five", x.cost(1, 3, 0, 4), 1);
        due("each is one of five", x.cost(1, 3, 0, 11), 1);
        due("begun on it", x.cost(0, 11, 0, 11), 0);
        due("begun on the DAY ahead of it", x.cost(0, 10, 0, 11), 3);
        due("begun behind it", x.cost(0, 12, 0, 11), 0);
        due("it lies behind the end", x.cost(0, 0, 0, 4), 0);
        due("all stays", x.rule(0, 4), 6);
        due("all stays", x.plus(0, 3, 1), 14);
        due("all stays", x.between(0, 3, 14), 1);
        Check.land(x, 0, "once 4");
        Check.chain(x, 2, "by 0 from 0 to 0 wait 0 days at 0");
        Check.way(x, 0, "back");
        CHECK.part("Terms: COST (below 0 where it would END later)");
        due("DAY 4", x.cost(2, 6, 0, 4), -1);
    }

    private static void costNever() {
        CHECK.part("Terms: NEVER counts as 4000");
        NoticeDesk x = atOnce(wait("1 work"), wait("2 work"), "by 0 from 0 to 0 wait 0 days at 0");
        Check.land(x, 0, "once 3999;once 3998;once 0");
        due("3998 for NEVER", x.cost(0, 3997, 0, 3998), 2);
        due("3999 for NEVER", x.cost(0, 3997, 0, 3999), 1);
        due("NEVER for NEVER", x.cost(1, 3997, 0, 3999), 0);
        Check.way(x, 0, "back");
        due("0 for NEVER below DAY 0", x.cost(2, 0, 0, 0), 4000);
        Check.way(x, 0, "work 1");
        due("1 for NEVER below DAY 0", x.cost(2, 0, 0, 0), 3999);
    }

    private static void costAllElse() {
        CHECK.part("Terms: all else as it is");
        NoticeDesk x = atOnce(wait("1 work"), "by 0 from 1 to 0 wait 1 work at 0");
        Check.land(x, 0, "once 5;once 6;moved");
        Check.land(x, 1, "once 7");
        due("7 and 8 are HOLIDAYS", x.ends(0, 4), 9);
        due("the one that was moved to 7 does not move on", x.cost(0, 4, 0, 7), 2);
        due("nor does the one of 8", x.cost(0, 4, 0, 8), 1);
        due("of the other LAND", x.cost(0, 4, 1, 7), 0);
        due("of the LAND from which", x.cost(1, 4, 1, 7), 1);
        due("not of the LAND to which", x.cost(1, 4, 0, 7), 0);
    }

    private static void costHidden() {
        CHECK.part("29: HIDDEN: no such ones, it is no HOLIDAY");
        NoticeDesk x = atOnce(wait("1 work"));
        Check.land(x, 0, "once 0;once 5;once 3999");
        due("DAY 0", x.cost(0, 0, 0, 0), 0);
        due("DAY 3999", x.cost(0, 3998, 0, 3999), 1);
        due("a WORKDAY", x.cost(0, 0, 0, 1), HIDDEN);
        due("of rest, told", x.cost(0, 0, 0, 5), HIDDEN);
        due("of rest", x.cost(0, 0, 0, 6), HIDDEN);
        due("a HOLIDAY of the other LAND", x.cost(0, 0, 1, 0), HIDDEN);
        for (int chain : NO_CHAINS) {
            due("chain " + chain, x.cost(chain, 0, 0, 0), HIDDEN);
        }
        for (int day : NO_DAYS) {
            due("begun " + day, x.cost(0, day, 0, 0), HIDDEN);
            due("day " + day, x.cost(0, 0, 0, day), HIDDEN);
        }
        for (int land : NO_LANDS) {
            due("land " + land, x.cost(0, 0, land, 0), HIDDEN);
        }
    }

    private static void dearest() {
        dearestMost();
        dearestOfSeveral();
        dearestAtTheEnds();
        dearestNone();
        dearestNever();
        dearestNoSuch();
    }

    private static void dearestIs(NoticeDesk x, int chain, int begun, int... due) {
        for (int what = 0; what < 3; what++) {
            due("dearest " + chain + " " + begun + " " + what, x.dearest(chain, begun, what), due[what]);
        }
    }

    private static void dearestMost() {
        CHECK.part("30: The HOLIDAY with the most COST for a CHAIN begun on a DAY");
        NoticeDesk x = atOnce(wait("1 work"), "by 0 from 1 to 0 wait 1 work at 0", wait("1 work") + ";" + wait("1 work"));
        Check.land(x, 0, "once 7;once 8;once 14;once 3998");
        Check.land(x, 1, "once 9");
        dearestIs(x, 0, 4, 0, 7, 2);
        dearestIs(x, 0, 6, 0, 7, 2);
        dearestIs(x, 0, 7, 0, 8, 1);
        dearestIs(x, 0, 3997, 0, 3998, 1);
        dearestIs(x, 1, 8, 1, 9, 1);
        // Begun on 10: 11, then 15 in place of 14.
        dearestIs(x, 2, 10, 0, 14, 1);
        // Begun on 4: 9, 10; a day less without either.
        dearestIs(x, 2, 4, 0, 7, 1);
    }

    private static void dearestOfSeveral() {
        CHECK.part("30: of several the earliest, then LAND 0");
        NoticeDesk x = Check.desk("once 7;once 8", "", "begin", "roll there roll");
        Check.chains(x, wait("2 work"), "by 1 from 0 to 1 wait 0 days at 12");
        dearestIs(x, 0, 4, 0, 7, 1);
        dearestIs(x, 0, 6, 0, 7, 1);
        dearestIs(x, 0, 7, 0, 8, 1);
        // Both of them hold it till 8.
        Check.land(x, 0, "once 7");
        Check.land(x, 1, "once 7");
        dearestIs(x, 1, 7, NONE, NONE, NONE);
        // By WAY 1 from 5 to 7, noon of 6 there; or to 8, noon of 7 there, 8.
        Check.land(x, 1, "zone - 12;rest 5;once 7");
        due("LAND 0", x.cost(1, 5, 0, 7), 2);
        due("LAND 1", x.cost(1, 5, 1, 7), 1);
        dearestIs(x, 1, 5, 0, 7, 2);
        Check.land(x, 1, "zone - 12;rest 5 6;once 7");
        due("LAND 0: 8 all the same", x.cost(1, 5, 0, 7), 0);
        dearestIs(x, 1, 5, 1, 7, 1);
    }

    private static void dearestAtTheEnds() {
        CHECK.part("30: The HOLIDAY with the most COST: DAY 0, DAY 3998");
        NoticeDesk x = Check.desk("once 0;once 3998", "once 0;once 3998", "roll", "there roll");
        Check.chains(x, "by 0 from 0 to 0 wait 0 days at 0", "by 1 from 0 to 1 wait 0 days at 0");
        dearestIs(x, 0, 0, 0, 0, 1);
        dearestIs(x, 1, 0, 1, 0, 1);
        dearestIs(x, 0, 3998, 0, 3998, 1);
        dearestIs(x, 1, 3998, 1, 3998, 1);
    }

    private static void dearestNone() {
        CHECK.part("30: (above 0); NONE: none");
        NoticeDesk x = atOnce(wait("1 work"), "by 0 from 0 to 0 wait 0 days at 9");
        dearestIs(x, 0, 4, NONE, NONE, NONE);
        Check.land(x, 0, "once 4;once 9");
        dearestIs(x, 0, 4, NONE, NONE, NONE);
        dearestIs(x, 0, 9, NONE, NONE, NONE);
        dearestIs(x, 1, 4, NONE, NONE, NONE);
        Check.way(x, 0, "back");
        due("below 0", x.cost(1, 6, 0, 4), -1);
        dearestIs(x, 1, 6, NONE, NONE, NONE);
    }

    private static void dearestNever() {
        CHECK.part("30: -2: NEVER");
        NoticeDesk x = atOnce(wait("1 work"), "by 0 from 0 to 0 wait 0 days at 9");
        Check.land(x, 0, "once 3999;once 0");
        due("it would be in time", x.cost(0, 3998, 0, 3999), 1);
        dearestIs(x, 0, 3998, NO_SUCH, NO_SUCH, NO_SUCH);
        dearestIs(x, 0, 3999, NO_SUCH, NO_SUCH, NO_SUCH);
        Check.way(x, 0, "back");
        dearestIs(x, 1, 0, NO_SUCH, NO_SUCH, NO_SUCH);
    }

    private static void dearestNoSuch() {
        CHECK.part("30: -2: no such ones");
        NoticeDesk x = atOnce(wait("1 work"));
        Check.land(x, 0, "once 7");
        dearestIs(x, 0, 4, 0, 7, 1);
        for (int what : new int[] {-1, 3, LEAST, MOST}) {
            due("what " + what, x.dearest(0, 4, what), NO_SUCH);
            due("what " + what + " where there is none", x.dearest(0, 9, what), NO_SUCH);
        }
        for (int chain : NO_CHAINS) {
            due("chain " + chain, x.dearest(chain, 4, 0), NO_SUCH);
        }
        for (int day : NO_DAYS) {
            due("day " + day, x.dearest(0, day, 0), NO_SUCH);
        }
    }
}
