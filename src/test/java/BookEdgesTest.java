/**
 * The edges of the book, its clock, acts and the image (promises 31 to 40, 42, 44, what Terms say of the BOOK), each
 * sentence of the document by a test of its own that bears the sentence as its name.
 */
public final class BookEdgesTest {
    private static final int NONE = NoticeDesk.NONE;
    private static final int LEAST = Integer.MIN_VALUE;
    private static final int MOST = Integer.MAX_VALUE;
    private static final int STATE = 6;
    private static final int[] NO_LANDS = {-1, 2, LEAST, MOST};
    private static final Check CHECK = new Check();

    private BookEdgesTest() { }

    public static void main(String[] args) {
        send();
        withdraw();
        pass();
        states();
        notice();
        due();
        late();
        now();
        undo();
        image();
        status();
        count();
        CHECK.close();
    }

    private static void due(String call, long got, long want) {
        CHECK.due(call, got, want);
    }

    private static void statusIs(NoticeDesk x, int... due) {
        for (int what = 0; what < 4; what++) {
            due("status " + what, x.status(what), due[what]);
        }
    }

    /** Lets the clock go on to a moment. */
    private static void passTo(NoticeDesk x, int moment) {
        for (int i = 0; i < 12 && x.now(0) < moment; i++) {
            x.pass(Math.min(9999, moment - x.now(0)));
        }
    }

    // ---- promise 31

    private static void send() {
        sendNumbers();
        sendTwelve();
        sendNoWay();
        sendOutOfBounds();
        sendNever();
        sendFirstOfSeveral();
        sendRefusedChangesNothing();
    }

    private static void sendNumbers() {
        CHECK.part("31: A NOTICE is SENT: its number; Terms: numbered as they came");
        NoticeDesk x = Check.desk("", "", "days 1", "days 2");
        due("0", x.send(1, 0, 1, NONE), 0);
        due("1", x.send(0, 1, 0, 0), 1);
        due("2", x.send(0, 1, 1, 3999), 2);
        int[][] due = {{1, 0, 1, 0, 2, NONE}, {0, 1, 0, 0, 1, 0}, {0, 1, 1, 0, 1, 3999}};
        for (int i = 0; i < due.length; i++) {
            for (int what = 0; what < 6; what++) {
                due("notice " + i + " " + what, x.notice(i, what), due[i][what]);
            }
        }
        CHECK.part("Terms: NOTICES are SENT as CLOCK is; CLOCK: a MOMENT (0 at first)");
        due("0 at first", x.now(0), 0);
        x.pass(30);
        due("3", x.send(0, 0, 0, NONE), 3);
        due("SENT", x.notice(3, 3), 30);
        due("SERVED", x.notice(3, 4), 2);
        due("the one ahead stays", x.notice(2, 3), 0);
    }

    private static void sendTwelve() {
        CHECK.part("31: there are 12 (2)");
        NoticeDesk x = Check.desk("", "", "days 1");
        for (int i = 0; i < 12; i++) {
            due("in", x.send(0, 0, 0, i), i);
        }
        for (int i = 1; i <= 3; i++) {
            due("a 13th", x.send(0, 0, 0, 5), NONE);
            statusIs(x, 0, 0, i, 0);
        }
        due("12", x.now(1), 12);
        for (int i = 0; i < 12; i++) {
            due("TERM", x.notice(i, 5), i);
        }
        due("withdrawn", x.withdraw(11), 11);
        due("there is room", x.send(0, 0, 0, 99), 11);
        due("TERM", x.notice(11, 5), 99);
        due("undone", x.undo(), 11);
        due("there is room", x.send(0, 0, 0, 98), 11);
    }

    private static void sendNoWay() {
        CHECK.part("31: NONE: no such WAY (STATUS 0)");
        NoticeDesk x = Check.desk("", "", "days 1");
        int refused = 0;
        for (int way : new int[] {1, 7, 8, -1, LEAST, MOST}) {
            due("way " + way, x.send(way, 0, 0, NONE), NONE);
            refused++;
            statusIs(x, refused, 0, 0, 0);
        }
        due("none came", x.now(1), 0);
    }

    private static void sendOutOfBounds() {
        CHECK.part("31: NONE: no such LAND, TERM (-1 to 3999; 1)");
        NoticeDesk x = Check.desk("", "", "days 1");
        int refused = 0;
        for (int land : NO_LANDS) {
            due("from " + land, x.send(0, land, 0, NONE), NONE);
            due("to " + land, x.send(0, 0, land, NONE), NONE);
            refused += 2;
            statusIs(x, 0, refused, 0, 0);
        }
        for (int term : new int[] {-2, 4000, LEAST, MOST}) {
            due("term " + term, x.send(0, 0, 0, term), NONE);
            refused++;
            statusIs(x, 0, refused, 0, 0);
        }
        due("none came", x.now(1), 0);
        for (int term : new int[] {-1, 0, 3999}) {
            due("term " + term, x.send(0, 0, 0, term), x.now(1) - 1);
        }
        due("three came", x.now(1), 3);
        statusIs(x, 0, refused, 0, 0);
    }

    private static void sendNever() {
        CHECK.part("31: NEVER (3)");
        NoticeDesk x = Check.desk("zone - 5", "zone 5", "here", "days 1", "there", "back");
        due("SENT is OUT by here, below 0", x.send(0, 0, 1, NONE), NONE);
        statusIs(x, 0, 0, 0, 1);
        due("below 0 there", x.send(2, 1, 0, NONE), NONE);
        statusIs(x, 0, 0, 0, 2);
        due("by the other one", x.send(0, 1, 0, NONE), 0);
        x.pass(5);
        due("in", x.send(0, 0, 1, NONE), 1);
        due("SERVED", x.notice(1, 4), 0);
        passTo(x, 95994);
        due("in", x.send(0, 1, 0, NONE), 2);
        x.pass(1);
        due("SENT is OUT by here, above 3999", x.send(0, 1, 0, NONE), NONE);
        statusIs(x, 0, 0, 0, 3);
        due("a day later", x.send(1, 0, 0, NONE), NONE);
        statusIs(x, 0, 0, 0, 4);
        due("above 3999 there", x.send(2, 0, 1, NONE), NONE);
        statusIs(x, 0, 0, 0, 5);
        due("in", x.send(0, 0, 1, NONE), 3);
        due("SERVED", x.notice(3, 4), 3999);
        NoticeDesk rest = Check.desk("rest 0", "", "back", "roll");
        due("no WORKDAY ahead", rest.send(0, 0, 0, NONE), NONE);
        due("one behind", rest.send(1, 0, 0, NONE), 0);
        statusIs(rest, 0, 0, 0, 1);
    }

    private static void sendFirstOfSeveral() {
        CHECK.part("Terms: STATUS: of several the first");
        NoticeDesk x = Check.desk("rest 0", "", "back", "here");
        due("no WAY and no LAND, no TERM", x.send(5, 2, 0, 4000), NONE);
        statusIs(x, 1, 0, 0, 0);
        due("no LAND and NEVER", x.send(0, 0, 2, NONE), NONE);
        statusIs(x, 1, 1, 0, 0);
        due("no TERM and NEVER", x.send(0, 0, 0, -2), NONE);
        statusIs(x, 1, 2, 0, 0);
        for (int i = 0; i < 12; i++) {
            due("in", x.send(1, 0, 0, NONE), i);
        }
        due("12 and NEVER", x.send(0, 0, 0, NONE), NONE);
        statusIs(x, 1, 2, 1, 0);
        due("no TERM and 12", x.send(1, 0, 0, 4000), NONE);
        statusIs(x, 1, 3, 1, 0);
        due("no WAY and 12", x.send(2, 0, 0, NONE), NONE);
        statusIs(x, 2, 3, 1, 0);
    }

    private static void sendRefusedChangesNothing() {
        CHECK.part("31: NONE: no ACT");
        NoticeDesk x = Check.desk("", "", "days 1", "days 99");
        passTo(x, 95999);
        int acts = x.count(1);
        x.send(5, 0, 0, NONE);
        x.send(0, 2, 0, NONE);
        x.send(1, 0, 0, NONE);
        due("NOTICES", x.now(1), 0);
        due("ACTS", x.count(1), acts);
        due("CLOCK", x.now(0), 95999);
    }

    // ---- promise 32

    private static void withdraw() {
        withdrawNumbers();
        withdrawNoSuch();
        withdrawNotOnItsWay();
    }

    private static void withdrawNumbers() {
        CHECK.part("32: One is withdrawn (those behind it have numbers 1 less): how many there are");
        for (int gone = 0; gone < 12; gone++) {
            NoticeDesk x = Check.desk("", "", "days 9");
            for (int i = 0; i < 12; i++) {
                x.send(0, 0, 0, i);
            }
            due("11 are left", x.withdraw(gone), 11);
            for (int i = 0; i < 11; i++) {
                due("TERM of " + i + " without " + gone, x.notice(i, 5), i < gone ? i : i + 1);
            }
            CHECK.dueThrows("there is no 11", x, 11, 5);
        }
        NoticeDesk x = Check.desk("", "", "days 9");
        x.send(0, 0, 0, NONE);
        due("the only one", x.withdraw(0), 0);
        due("no more", x.withdraw(0), NONE);
        due("a new one has its number", x.send(0, 0, 0, NONE), 0);
    }

    private static void withdrawNoSuch() {
        CHECK.part("32: NONE: no such one (STATUS 0)");
        NoticeDesk x = Check.desk("", "", "days 9");
        due("none at all", x.withdraw(0), NONE);
        statusIs(x, 1, 0, 0, 0);
        x.send(0, 0, 0, NONE);
        int refused = 1;
        for (int notice : new int[] {1, 11, 12, -1, LEAST, MOST}) {
            due("notice " + notice, x.withdraw(notice), NONE);
            refused++;
            statusIs(x, refused, 0, 0, 0);
        }
        due("it is still there", x.now(1), 1);
        due("no ACT", x.count(1), 1);
    }

    private static void withdrawNotOnItsWay() {
        CHECK.part("32: it isn't on its way (3; STATES 0, 3 are)");
        NoticeDesk x = Check.desk("", "", "days 1");
        x.send(0, 0, 0, NONE);
        x.send(0, 0, 0, 0);
        x.pass(24);
        due("STATE 1", x.notice(0, STATE), 1);
        due("STATE 1", x.withdraw(0), NONE);
        statusIs(x, 0, 0, 0, 1);
        due("STATE 2", x.notice(1, STATE), 2);
        due("STATE 2", x.withdraw(1), NONE);
        statusIs(x, 0, 0, 0, 2);
        due("no ACT", x.count(1), 3);
        due("both are there", x.now(1), 2);
        Check.way(x, 0, "days 9");
        x.send(0, 0, 0, NONE);
        x.send(0, 0, 0, 1);
        x.pass(24);
        due("STATE 0", x.notice(2, STATE), 0);
        due("STATE 3", x.notice(3, STATE), 3);
        due("STATE 3", x.withdraw(3), 3);
        due("STATE 0", x.withdraw(2), 2);
        statusIs(x, 0, 0, 0, 2);
    }

    // ---- promise 33

    private static void pass() {
        CHECK.part("33: CLOCK goes on by so many hours (1 to 9999): CLOCK");
        NoticeDesk x = new NoticeDesk();
        due("1", x.pass(1), 1);
        due("9999", x.pass(9999), 10000);
        CHECK.part("33: NONE: out of bounds (STATUS 1)");
        int refused = 0;
        for (int hours : new int[] {0, -1, 10000, LEAST, MOST, MOST - 9999, -10000}) {
            due("hours " + hours, x.pass(hours), NONE);
            refused++;
            statusIs(x, 0, refused, 0, 0);
            due("CLOCK stays", x.now(0), 10000);
            due("no ACT", x.count(1), 2);
        }
        CHECK.part("33: 95999 at most");
        passTo(x, 95000);
        due("one too many", x.pass(1000), NONE);
        statusIs(x, 0, refused + 1, 0, 0);
        due("the last one", x.pass(999), 95999);
        due("one more", x.pass(1), NONE);
        due("many more", x.pass(9999), NONE);
        statusIs(x, 0, refused + 3, 0, 0);
        due("CLOCK", x.now(0), 95999);
    }

    // ---- STATE

    private static void states() {
        onItsWay();
        servedInTime();
        servedLate();
        termIsOver();
        byTheLand();
        toldLater();
    }

    private static void statesAre(NoticeDesk x, int... due) {
        for (int i = 0; i < due.length; i++) {
            due("STATE of " + i + " at " + x.now(0), x.notice(i, STATE), due[i]);
        }
    }

    private static void onItsWay() {
        CHECK.part("Terms: STATE: 0 on its way, 1 SERVED (the DAY of CLOCK is its SERVED DAY or behind)");
        NoticeDesk x = Check.desk("", "", "days 2", "here");
        x.send(0, 0, 0, NONE);
        x.send(1, 0, 0, NONE);
        statesAre(x, 0, 1);
        x.pass(47);
        statesAre(x, 0, 1);
        x.pass(1);
        statesAre(x, 1, 1);
        passTo(x, 95999);
        statesAre(x, 1, 1);
    }

    private static void servedInTime() {
        CHECK.part("Terms: in time (SERVED on its TERM or ahead, or without TERM)");
        NoticeDesk x = Check.desk("", "", "days 2");
        x.send(0, 0, 0, 2);
        x.send(0, 0, 0, 3);
        x.send(0, 0, 0, 3999);
        x.send(0, 0, 0, NONE);
        x.pass(48);
        statesAre(x, 1, 1, 1, 1);
        passTo(x, 95999);
        statesAre(x, 1, 1, 1, 1);
    }

    private static void servedLate() {
        CHECK.part("Terms: 2 SERVED late");
        NoticeDesk x = Check.desk("", "", "days 2");
        x.send(0, 0, 0, 1);
        x.send(0, 0, 0, 0);
        x.pass(47);
        statesAre(x, 0, 3);
        x.pass(1);
        statesAre(x, 2, 2);
        passTo(x, 95999);
        statesAre(x, 2, 2);
    }

    private static void termIsOver() {
        CHECK.part("Terms: 3 on its way and its TERM is over");
        NoticeDesk x = Check.desk("", "", "days 3");
        x.send(0, 0, 0, 0);
        x.send(0, 0, 0, 1);
        x.send(0, 0, 0, NONE);
        x.pass(23);
        statesAre(x, 0, 0, 0);
        x.pass(1);
        statesAre(x, 3, 0, 0);
        x.pass(23);
        statesAre(x, 3, 0, 0);
        x.pass(1);
        statesAre(x, 3, 3, 0);
        x.send(0, 0, 0, 1);
        statesAre(x, 3, 3, 0, 3);
        x.pass(24);
        statesAre(x, 2, 2, 1, 3);
    }

    private static void byTheLand() {
        CHECK.part("Terms: by the LAND that is looked at in the end of its WAY");
        NoticeDesk x = Check.desk("zone 12", "zone - 12", "days 1", "there days 1", "there here days 1");
        x.pass(13);
        // LAND 0: hour 1 of DAY 1; LAND 1: hour 1 of DAY 0.
        x.send(0, 0, 1, NONE);
        x.send(1, 0, 1, 0);
        x.send(2, 0, 1, 1);
        int[] lands = {0, 1, 0};
        int[] served = {2, 1, 2};
        for (int i = 0; i < 3; i++) {
            due("LAND", x.notice(i, 7), lands[i]);
            due("SERVED", x.notice(i, 4), served[i]);
        }
        x.pass(22);
        statesAre(x, 0, 0, 0);
        x.pass(1);
        // LAND 0: hour 0 of DAY 2; LAND 1: hour 0 of DAY 1.
        statesAre(x, 1, 2, 2);
        NoticeDesk early = Check.desk("", "zone - 12", "there days 1 begin");
        early.pass(12);
        early.send(0, 0, 1, 0);
        early.undo();
        early.undo();
        due("below DAY 0 there", early.send(0, 0, 1, 0), NONE);
        Check.land(early, 0, "zone 12");
        Check.way(early, 0, "here");
        due("at noon of DAY 0", early.send(0, 0, 1, NONE), 0);
        Check.land(early, 0, "zone - 12");
        due("CLOCK is DAY -1 there", early.notice(0, STATE), 0);
        early.pass(12);
        due("CLOCK is DAY 0 there", early.notice(0, STATE), 1);
    }

    private static void toldLater() {
        CHECK.part("Terms: (LANDS, WAYS told later leave what was SERVED)");
        NoticeDesk x = Check.desk("", "", "work 1 there", "there work 1 here");
        passTo(x, 24 * 4);
        x.send(0, 0, 1, NONE);
        x.send(1, 0, 1, 6);
        Check.land(x, 0, "rest 0 1 2");
        Check.land(x, 1, "once 7");
        Check.way(x, 0, "days 99");
        Check.way(x, 1, "end");
        int[][] due = {{0, 0, 1, 96, 7, NONE, 0, 1}, {1, 0, 1, 96, 7, 6, 0, 0}};
        for (int i = 0; i < 2; i++) {
            for (int what = 0; what < 8; what++) {
                due("notice " + i + " " + what, x.notice(i, what), due[i][what]);
            }
        }
        passTo(x, 24 * 7);
        statesAre(x, 1, 2);
        due("a new one goes by what is told now", x.send(0, 0, 1, NONE), 2);
        due("SERVED", x.notice(2, 4), 106);
    }

    // ---- promises 34 to 37

    private static void notice() {
        CHECK.part("34: NoSuchElementException: no such ones");
        NoticeDesk x = Check.desk("", "", "days 1");
        CHECK.dueThrows("none at all", x, 0, 0);
        x.send(0, 0, 0, NONE);
        for (int what = 0; what < 8; what++) {
            due("what " + what, x.notice(0, what), new int[] {0, 0, 0, 0, 1, NONE, 0, 0}[what]);
        }
        for (int notice : new int[] {-1, 1, 11, 12, LEAST, MOST}) {
            CHECK.dueThrows("notice " + notice, x, notice, 0);
            CHECK.dueThrows("notice " + notice, x, notice, 6);
        }
        for (int what : new int[] {-1, 8, LEAST, MOST}) {
            CHECK.dueThrows("what " + what, x, 0, what);
        }
        x.withdraw(0);
        CHECK.dueThrows("withdrawn", x, 0, 0);
        due("all stays", x.count(1), 2);
        statusIs(x, 0, 0, 0, 0);
    }

    private static void due() {
        CHECK.part("35: The n-th NOTICE (0 on) by SERVED DAYS, then by numbers");
        NoticeDesk x = Check.desk("", "", "days 3", "days 2", "days 99");
        for (int i = 0; i < 12; i++) {
            x.send(i % 3, 0, 0, i % 2 == 0 ? NONE : 0);
        }
        int[] order = {1, 4, 7, 10, 0, 3, 6, 9, 2, 5, 8, 11};
        for (int n = 0; n < 12; n++) {
            due("due " + n, x.due(n), order[n]);
        }
        x.pass(48);
        due("SERVED ones count too", x.due(0), 1);
        x.withdraw(2);
        due("the numbers are 1 less", x.due(1), 3);
        due("the last one", x.due(10), 10);
        CHECK.part("35: NONE: no such one");
        for (int n : new int[] {11, 12, -1, LEAST, MOST}) {
            due("due " + n, x.due(n), NONE);
        }
        due("none at all", new NoticeDesk().due(0), NONE);
    }

    private static void late() {
        CHECK.part("36: Of NOTICES of STATE 2: 0 DAYS late together (SERVED less TERM), 1 the most of one");
        NoticeDesk x = Check.desk("", "", "days 9");
        lateIs(x, 0, 0);
        for (int term : new int[] {NONE, 9, 8, 0, 7, 10}) {
            x.send(0, 0, 0, term);
        }
        x.pass(24 * 9 - 1);
        lateIs(x, 0, 0);
        x.pass(1);
        lateIs(x, 12, 9);
        x.send(0, 0, 0, 0);
        lateIs(x, 12, 9);
        passTo(x, 24 * 18);
        lateIs(x, 30, 18);
        NoticeDesk first = Check.desk("", "", "days 9");
        first.send(0, 0, 0, 8);
        first.send(0, 0, 0, NONE);
        passTo(first, 24 * 9);
        lateIs(first, 1, 1);
        CHECK.part("36: NONE for others");
        for (int what : new int[] {-1, 2, LEAST, MOST}) {
            due("late " + what, x.late(what), NONE);
        }
    }

    private static void lateIs(NoticeDesk x, int all, int most) {
        due("together", x.late(0), all);
        due("the most", x.late(1), most);
    }

    private static void nowIs(NoticeDesk x, int... due) {
        for (int what = 0; what < due.length; what++) {
            due("now " + what, x.now(what), due[what]);
        }
    }

    private static void now() {
        CHECK.part("37: 2 to 5 how many have STATE 0 to 3, 6 SERVED next (on its way; of several the lowest; NONE)");
        NoticeDesk x = Check.desk("", "", "days 3", "days 1", "days 2");
        nowIs(x, 0, 0, 0, 0, 0, 0, NONE, 7, 0);
        x.send(0, 0, 0, NONE);
        x.send(1, 0, 0, NONE);
        x.send(2, 0, 0, 0);
        x.send(2, 0, 0, 0);
        x.send(1, 0, 0, 0);
        nowIs(x, 0, 5, 5, 0, 0, 0, 1, 7, 0);
        x.pass(24);
        nowIs(x, 24, 5, 1, 1, 1, 2, 2, 7, 0);
        x.pass(24);
        nowIs(x, 48, 5, 1, 1, 3, 0, 0, 7, 0);
        x.pass(24);
        nowIs(x, 72, 5, 0, 2, 3, 0, NONE, 7, 0);
        passTo(x, 24 * 3998);
        x.send(1, 0, 0, NONE);
        x.send(1, 0, 0, NONE);
        due("SERVED next on DAY 3999", x.now(6), 5);
        CHECK.part("37: 7 WAYS told (bits), 8 CHAINS (bits)");
        Check.way(x, 7, "end");
        Check.chain(x, 5, "by 7 from 0 to 0 wait 0 days at 0");
        Check.chain(x, 0, "by 7 from 0 to 0 wait 0 days at 0");
        due("WAYS", x.now(7), 135);
        due("CHAINS", x.now(8), 33);
        CHECK.part("37: NONE for others");
        for (int what : new int[] {-1, 9, LEAST, MOST}) {
            due("now " + what, x.now(what), NONE);
        }
    }

    // ---- promise 38

    private static void undo() {
        undoNone();
        undoEach();
        undoTwelve();
        undoRing();
        undoFull();
        tellingIsNoAct();
    }

    private static void undoNone() {
        CHECK.part("38: NONE: none");
        NoticeDesk x = new NoticeDesk();
        due("at first", x.undo(), NONE);
        x.pass(1);
        due("one", x.undo(), 0);
        due("no more", x.undo(), NONE);
        due("CLOCK", x.now(0), 0);
        statusIs(x, 0, 0, 0, 0);
        x.pass(0);
        due("a refused call is no ACT", x.undo(), NONE);
    }

    private static void undoEach() {
        CHECK.part("38: The latest ACT is UNDONE: how many still can be");
        NoticeDesk x = Check.desk("", "", "days 9");
        x.send(0, 0, 1, 5);
        x.pass(7);
        x.send(0, 1, 0, 6);
        x.withdraw(0);
        due("TERM", x.notice(0, 5), 6);
        due("the withdrawn one is there again", x.undo(), 3);
        int[][] due = {{0, 0, 1, 0, 9, 5, 0, 0}, {0, 1, 0, 7, 9, 6, 0, 1}};
        for (int i = 0; i < 2; i++) {
            for (int what = 0; what < 8; what++) {
                due("notice " + i + " " + what, x.notice(i, what), due[i][what]);
            }
        }
        due("the second one is gone", x.undo(), 2);
        CHECK.dueThrows("gone", x, 1, 0);
        due("CLOCK goes back", x.undo(), 1);
        due("CLOCK", x.now(0), 0);
        due("the first one is gone", x.undo(), 0);
        due("NOTICES", x.now(1), 0);
    }

    private static void undoTwelve() {
        CHECK.part("Terms: the latest 12 can be UNDONE");
        NoticeDesk x = new NoticeDesk();
        for (int i = 1; i <= 12; i++) {
            x.pass(1);
            due("ACTS", x.count(1), i);
        }
        x.pass(1);
        due("12 at most", x.count(1), 12);
        for (int i = 11; i >= 0; i--) {
            due("still", x.undo(), i);
            due("CLOCK", x.now(0), i + 1);
        }
        due("the first one can't be", x.undo(), NONE);
        due("CLOCK", x.now(0), 1);
    }

    private static void undoRing() {
        CHECK.part("Terms: the latest 12 can be UNDONE, again and again");
        NoticeDesk x = new NoticeDesk();
        int clock = 0;
        for (int round = 0; round < 9; round++) {
            for (int i = 0; i < 7; i++) {
                x.pass(1 + i);
                clock += 1 + i;
            }
            due("twice", x.undo(), Math.min(12, 7 + 5 * round) - 1);
            due("twice", x.undo(), Math.min(12, 7 + 5 * round) - 2);
            clock -= 13;
            due("CLOCK", x.now(0), clock);
        }
        int left = x.count(1);
        due("ACTS", left, 10);
        for (int i = left - 1; i >= 0; i--) {
            due("still", x.undo(), i);
            clock -= 1 + i % 5;
            due("CLOCK", x.now(0), clock);
        }
        due("none", x.undo(), NONE);
    }

    private static void undoFull() {
        CHECK.part("38: a full BOOK is UNDONE");
        NoticeDesk x = Check.desk("", "", "days 9");
        for (int i = 0; i < 12; i++) {
            x.send(0, 0, 0, i);
        }
        due("refused", x.send(0, 0, 0, NONE), NONE);
        for (int i = 11; i >= 0; i--) {
            due("still", x.undo(), i);
            due("NOTICES", x.now(1), i);
            if (i > 0) {
                due("TERM", x.notice(i - 1, 5), i - 1);
            }
        }
        statusIs(x, 0, 0, 1, 0);
    }

    private static void tellingIsNoAct() {
        CHECK.part("Terms: A LAND, a WAY, a CHAIN told is no ACT");
        NoticeDesk x = Check.chains(Check.desk("zone 1", "zone 2", "days 1"), "by 0 from 0 to 0 wait 0 days at 0");
        due("ACTS", x.count(1), 0);
        due("none", x.undo(), NONE);
        x.pass(1);
        Check.land(x, 0, "zone 3");
        Check.way(x, 1, "end");
        x.image();
        due("the ACT ahead of them", x.undo(), 0);
        due("the LAND stays", x.rule(0, 0), 3);
        due("the WAYS stay", x.now(7), 3);
        due("the CHAIN stays", x.now(8), 1);
    }

    // ---- promises 39, 40

    private static void image() {
        imageInstead();
        backNone();
        backNoUndo();
        imageKeeps();
    }

    private static void imageInstead() {
        CHECK.part("39: An IMAGE (instead of the one ahead): CLOCK");
        NoticeDesk x = new NoticeDesk();
        due("at first", x.image(), 0);
        x.pass(5);
        due("instead", x.image(), 5);
        x.pass(5);
        due("the second one", x.back(), 5);
        due("again", x.back(), 5);
        due("no ACT", x.count(1), 0);
        passTo(x, 95999);
        due("the last CLOCK", x.image(), 95999);
        due("the last CLOCK", x.back(), 95999);
    }

    private static void backNone() {
        CHECK.part("40: NONE: no IMAGE");
        NoticeDesk x = Check.desk("", "", "days 9");
        due("at first", x.back(), NONE);
        x.pass(5);
        x.send(0, 0, 0, NONE);
        due("none yet", x.back(), NONE);
        due("CLOCK stays", x.now(0), 5);
        due("the BOOK stays", x.now(1), 1);
        due("ACTS stay", x.count(1), 2);
        statusIs(x, 0, 0, 0, 0);
    }

    private static void backNoUndo() {
        CHECK.part("40: (no ACT can be UNDONE then)");
        NoticeDesk x = new NoticeDesk();
        x.pass(1);
        x.pass(2);
        x.image();
        due("the IMAGE leaves the ACTS", x.count(1), 2);
        due("and they can be UNDONE", x.undo(), 1);
        due("CLOCK", x.now(0), 1);
        due("back", x.back(), 3);
        due("ACTS", x.count(1), 0);
        due("none", x.undo(), NONE);
        due("CLOCK", x.now(0), 3);
        x.pass(4);
        due("a new ACT", x.undo(), 0);
        due("CLOCK", x.now(0), 3);
        for (int i = 0; i < 13; i++) {
            x.pass(1);
        }
        due("12 at most", x.count(1), 12);
        due("back", x.back(), 3);
        due("ACTS", x.count(1), 0);
    }

    private static void imageKeeps() {
        CHECK.part("Terms: An IMAGE keeps the BOOK and CLOCK; 40: All it keeps is so again");
        NoticeDesk x = Check.desk("", "", "days 9");
        for (int i = 0; i < 12; i++) {
            x.send(0, i % 2, 1, 20 - i);
        }
        x.pass(30);
        due("image", x.image(), 30);
        for (int i = 0; i < 6; i++) {
            x.withdraw(i);
        }
        x.pass(9999);
        x.pass(0);
        Check.way(x, 1, "end");
        Check.land(x, 0, "once 3");
        Check.feed(x, "here");
        due("back", x.back(), 30);
        due("NOTICES", x.now(1), 12);
        for (int i = 0; i < 12; i++) {
            int[] due = {0, i % 2, 1, 0, 9, 20 - i, 0, i % 2};
            for (int what = 0; what < 8; what++) {
                due("notice " + i + " " + what, x.notice(i, what), due[what]);
            }
        }
        CHECK.part("Terms: An IMAGE keeps the BOOK and CLOCK alone");
        statusIs(x, 0, 1, 0, 0);
        due("WAYS", x.now(7), 3);
        due("LAND 0", x.rule(0, 4), 1);
        due("TAPE", x.count(0), 4);
        x.undo();
        x.withdraw(0);
        due("the IMAGE stays as it was", x.back(), 30);
        due("NOTICES", x.now(1), 12);
        NoticeDesk empty = Check.desk("", "", "days 9");
        empty.image();
        empty.send(0, 0, 0, NONE);
        due("an empty BOOK", empty.back(), 0);
        due("NOTICES", empty.now(1), 0);
    }

    // ---- promises 42, 44

    private static void status() {
        CHECK.part("42: NONE: no such what");
        NoticeDesk x = new NoticeDesk();
        for (int what : new int[] {-1, 4, LEAST, MOST}) {
            due("status " + what, x.status(what), NONE);
        }
        CHECK.part("Terms: STATUS: how many calls that are ACTS were refused");
        x.undo();
        x.back();
        x.land(2);
        x.way(8);
        x.chain(6);
        x.end(5);
        x.fault(9);
        x.served(0, 0, 0, 0);
        statusIs(x, 0, 0, 0, 0);
        x.send(0, 0, 0, 0);
        x.withdraw(0);
        x.pass(0);
        statusIs(x, 2, 1, 0, 0);
        x.pass(1);
        x.undo();
        statusIs(x, 2, 1, 0, 0);
    }

    private static void count() {
        CHECK.part("44: 0 bytes of the TAPE, 1 ACTS that can be UNDONE");
        NoticeDesk x = new NoticeDesk();
        due("none", x.count(0), 0);
        due("none", x.count(1), 0);
        Check.feed(x, " ".repeat(320));
        due("full", x.count(0), 320);
        for (int i = 0; i < 20; i++) {
            x.pass(1);
        }
        due("full", x.count(1), 12);
        CHECK.part("44: NONE for others");
        for (int what : new int[] {-1, 2, LEAST, MOST}) {
            due("count " + what, x.count(what), NONE);
        }
    }
}
