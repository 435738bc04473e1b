/**
 * The edges of the tape and of the texts on it (promises 1 to 7, what Terms say of TEXTS), each sentence of the document
 * by a test of its own that bears the sentence as its name.
 */
public final class TextEdgesTest {
    private static final int NONE = NoticeDesk.NONE;
    private static final int LEAST = Integer.MIN_VALUE;
    private static final int MOST = Integer.MAX_VALUE;
    private static final int LAND = 0;
    private static final int WAY = 1;
    private static final int CHAIN = 2;
    private static final String STAGE = "by 0 from 0 to 1 wait 3 days at 9";
    private static final Check CHECK = new Check();

    private TextEdgesTest() { }

    public static void main(String[] args) {
        newObject();
        tapeEdges();
        callsThatTell();
        landEdges();
        partEdges();
        faultEdges();
        wayEdges();
        chainEdges();
        CHECK.close();
    }

    private static void due(String call, long got, long want) {
        CHECK.due(call, got, want);
    }

    private static void faults(int what, Object... textsAndFaults) {
        CHECK.faults(Check.desk("", "", "here"), what, textsAndFaults);
    }

    // ---- promise 1

    private static void newObject() {
        newLands();
        newWaysAndChains();
    }

    private static void newLands() {
        CHECK.part("1: LANDS of empty TEXTS");
        NoticeDesk x = new NoticeDesk();
        NoticeDesk told = Check.desk("", "");
        for (int land = 0; land < 2; land++) {
            for (int what = 0; what < 7; what++) {
                due("rule " + land + " " + what, x.rule(land, what), told.rule(land, what));
            }
            for (int day = 0; day < 4000; day++) {
                due("day " + land + " " + day, x.day(land, day), day % 7 < 5 ? 0 : 1);
            }
        }
        due("the tape is empty", x.count(0), 0);
    }

    private static void newWaysAndChains() {
        CHECK.part("1: no WAYS, CHAINS");
        NoticeDesk x = new NoticeDesk();
        for (int way = 0; way < 8; way++) {
            due("served by " + way, x.served(way, 0, 0, 0), -2);
            due("written " + way, x.written(way, NONE), NONE);
            due("fault of a chain by " + way, Check.fault(x, CHAIN, "by " + way), 3);
        }
        for (int chain = 0; chain < 6; chain++) {
            due("ends " + chain, x.ends(chain, 0), -2);
        }
        due("WAYS", x.now(7), 0);
        due("CHAINS", x.now(8), 0);
    }

    // ---- promises 2, 3

    private static void tapeEdges() {
        twentyBytes();
        highestFirst();
        bytesOfZero();
        moreThanThreeHundred();
        firstBytesAlone();
        endOutOfBounds();
    }

    private static void twentyBytes() {
        CHECK.part("2: Twenty bytes more come to the TAPE: how many it has");
        NoticeDesk x = new NoticeDesk();
        int[][] numbers = {{0x01010101, 20}, {-1, 40}, {0x80808080, 60}, {0x7f7f7f7f, 80}};
        for (int[] row : numbers) {
            due("five times " + row[0], x.feed(row[0], row[0], row[0], row[0], row[0]), row[1]);
        }
        due("count", x.count(0), 80);
        due("a land told empties it", Check.land(x, 0, ""), 0);
        due("and it begins anew", x.feed(-1, 0, 0, 0, 0), 4);
    }

    private static void highestFirst() {
        CHECK.part("2: of each number the highest first");
        NoticeDesk x = new NoticeDesk();
        due("here there roll back", x.feed(0x68657265, 0x20746865, 0x72652072, 0x6f6c6c20, 0x6261636b), 20);
        due("it is", x.way(0), 4);
        due("ereh", x.feed(0x65726568, 0, 0, 0, 0), 4);
        due("it is no word", x.way(0), NONE);
    }

    private static void bytesOfZero() {
        CHECK.part("2: bytes of 0 are left out");
        NoticeDesk x = new NoticeDesk();
        due("all of them", x.feed(0, 0, 0, 0, 0), 0);
        due("h", x.feed(0, 0x68, 0, 0, 0), 1);
        due("e", x.feed(0, 0, 0, 0, 0x6500), 2);
        due("r", x.feed(0x720000, 0, 0, 0, 0), 3);
        due("e", x.feed(0, 0, 0x65000000, 0, 0), 4);
        due("here", x.way(0), 1);
        due("between and at the ends", x.feed(0x65006e00, 0x00640020, 0x00656e64, 0x20656e00, 0x64), 11);
        due("end end end", x.way(0), 3);
        due("the least int is a byte of 128", x.feed(LEAST, 0, 0, 0, 0), 1);
    }

    private static void moreThanThreeHundred() {
        CHECK.part("2: NONE: more than 300 (without these)");
        NoticeDesk x = new NoticeDesk();
        Check.feed(x, " ".repeat(299));
        due("299 are not", x.feed(0x20000000, 0, 0, 0, 0), 300);
        // "here there work 9end"
        due("300 are not", x.feed(0x68657265, 0x20746865, 0x72652077, 0x6f726b20, 0x39656e64), 320);
        due("320 are", x.feed(0x20000000, 0, 0, 0, 0), NONE);
        due("so they are for nothing at all", x.feed(0, 0, 0, 0, 0), NONE);
        due("none of these came", x.count(0), 320);
        due("all ahead of them are there", x.way(0), 4);
        due("and then there is room again", x.feed(-1, -1, -1, -1, -1), 20);
        Check.feed(x, " ".repeat(301));
        due("301 are", x.feed(0, 0, 0, 0, 0), NONE);
        due("301 are", x.feed(-1, -1, -1, -1, -1), NONE);
        due("none of these came", x.count(0), 301);
    }

    private static void firstBytesAlone() {
        CHECK.part("3: The TAPE has its first n bytes alone");
        NoticeDesk x = new NoticeDesk();
        CHECK.due("none of an empty one", x.end(0), true);
        Check.feed(x, "here there");
        CHECK.due("all", x.end(10), true);
        due("all", x.fault(WAY), NONE);
        CHECK.due("all but one", x.end(9), true);
        due("ther is no word", x.fault(WAY), 5);
        CHECK.due("four", x.end(4), true);
        due("here", x.fault(WAY), NONE);
        due("and one behind it", x.feed(0x73, 0, 0, 0, 0), 5);
        due("heres is no word", x.fault(WAY), 0);
        CHECK.due("none", x.end(0), true);
        due("none", x.count(0), 0);
    }

    private static void endOutOfBounds() {
        CHECK.part("3: False: n");
        NoticeDesk x = new NoticeDesk();
        CHECK.due("1 of an empty one", x.end(1), false);
        Check.feed(x, "here");
        for (int n : new int[] {-1, 5, 300, LEAST, MOST}) {
            CHECK.due("end " + n, x.end(n), false);
            due("all stays", x.count(0), 4);
        }
        due("all stays", x.way(0), 1);
    }

    // ---- promises 4 to 7

    private static void callsThatTell() {
        noOtherFault();
        faultChangesNothing();
        noSuchLand();
        landStaysByFault();
        noSuchWay();
        wayStaysByFault();
        noSuchChain();
        chainStaysByFault();
        tapeEmptyThen();
    }

    private static void noOtherFault() {
        CHECK.part("4: -2: another what");
        NoticeDesk x = new NoticeDesk();
        due("a LAND", x.fault(0), NONE);
        due("a WAY", x.fault(1), 0);
        due("a CHAIN", x.fault(2), 0);
        for (int what : new int[] {-2, -1, 3, 4, LEAST, MOST}) {
            due("fault " + what, x.fault(what), -2);
        }
    }

    private static void faultChangesNothing() {
        CHECK.part("4: The FAULT of the TAPE");
        NoticeDesk x = Check.chains(Check.desk("zone 1", "zone 2", "days 1"), STAGE);
        for (String text : new String[] {"zone 9;open 1 2", "end end end", STAGE + ";" + STAGE, "zone 99"}) {
            Check.feed(x, text);
            for (int what = 0; what < 3; what++) {
                due("twice alike", x.fault(what), x.fault(what));
            }
            due("the tape stays", x.count(0), text.length());
            due("LAND 0 stays", x.rule(0, 0), 1);
            due("its hours stay", x.rule(0, 2), 9);
            due("WAY 0 stays", x.served(0, 0, 0, 0), 1);
            due("CHAIN 0 stays", x.stage(0, 0, 1, 0), -2);
        }
    }

    private static void noSuchLand() {
        CHECK.part("5: NONE: no such LAND");
        NoticeDesk x = new NoticeDesk();
        Check.feed(x, "zone 5");
        for (int land : new int[] {-1, 2, LEAST, MOST}) {
            due("land " + land, x.land(land), NONE);
            due("the tape stays", x.count(0), 6);
        }
        due("LAND 0 stays", x.rule(0, 0), 0);
        due("LAND 1 stays", x.rule(1, 0), 0);
        due("the tape is a land", x.land(1), 0);
        due("LAND 1", x.rule(1, 0), 5);
    }

    private static void landStaysByFault() {
        CHECK.part("5: NONE: a FAULT (all stays, the TAPE, too)");
        String first = "zone 5;rest 0 3;open 1 2;once 1;once 3;moved";
        NoticeDesk x = Check.desk(first, "");
        NoticeDesk same = Check.desk(first, "");
        String[] spoiled = {"zone - 4;rest 2;open 3 5;kept;once 9;x", "zone 13", "zone 4;", "once 9;rest 7", ";"};
        for (String text : spoiled) {
            due("a fault", Check.land(x, 0, text), NONE);
            due("the tape stays", x.count(0), text.length());
            for (int what = 0; what < 7; what++) {
                due("rule " + what + " stays", x.rule(0, what), same.rule(0, what));
            }
            for (int day = 0; day < 20; day++) {
                due("day " + day + " stays", x.day(0, day), same.day(0, day));
            }
        }
        Check.feed(x, "zone 4;");
        due("a fault", x.land(0), NONE);
        CHECK.due("cut to what is a land", x.end(6), true);
        due("the tape was there", x.land(0), 0);
        due("zone", x.rule(0, 0), 4);
    }

    private static void noSuchWay() {
        CHECK.part("6: NONE: not 0 to 7");
        NoticeDesk x = new NoticeDesk();
        Check.feed(x, "end");
        for (int way : new int[] {-1, 8, LEAST, MOST}) {
            due("way " + way, x.way(way), NONE);
            due("the tape stays", x.count(0), 3);
        }
        due("no ways", x.now(7), 0);
        for (int way = 0; way < 8; way++) {
            due("way " + way, Check.way(x, way, "end"), 1);
            due("bits", x.now(7), (2 << way) - 1);
        }
    }

    private static void wayStaysByFault() {
        CHECK.part("6: NONE: a FAULT (likewise)");
        NoticeDesk x = Check.desk("", "", "days 5 end");
        for (String text : new String[] {"", "hours 3 begin x", "here ".repeat(13), "days 3 work 61"}) {
            due("a fault", Check.way(x, 0, text), NONE);
            due("the tape stays", x.count(0), text.length());
            due("the way stays", x.served(0, 0, 0, 0), 5);
            due("its steps too", x.step(0, 0, 0, 0, 1, 1), 23);
            due("no step more", x.step(0, 0, 0, 0, 2, 1), -2);
            due("its text too", x.written(0, NONE), 10);
            due("a fault", x.way(1), NONE);
            due("no way came", x.now(7), 1);
        }
    }

    private static void noSuchChain() {
        CHECK.part("7: NONE: not 0 to 5");
        NoticeDesk x = Check.desk("", "", "here");
        Check.feed(x, STAGE);
        for (int chain : new int[] {-1, 6, LEAST, MOST}) {
            due("chain " + chain, x.chain(chain), NONE);
            due("the tape stays", x.count(0), STAGE.length());
        }
        due("no chains", x.now(8), 0);
        for (int chain = 0; chain < 6; chain++) {
            due("chain " + chain, Check.chain(x, chain, STAGE), 1);
            due("bits", x.now(8), (2 << chain) - 1);
        }
    }

    private static void chainStaysByFault() {
        CHECK.part("7: NONE: a FAULT (likewise)");
        NoticeDesk x = Check.chains(Check.desk("", "", "here"), STAGE + ";" + STAGE);
        String[] spoiled = {"", "by 0 from 1 to 0 wait 9 work at 1;by", "by 1 from 0 to 1 wait 3 days at 9", STAGE + ";"};
        for (String text : spoiled) {
            due("a fault", Check.chain(x, 0, text), NONE);
            due("the tape stays", x.count(0), text.length());
            due("the chain stays", x.ends(0, 0), 6);
            due("no stage more", x.stage(0, 0, 2, 0), -2);
            due("a fault", x.chain(1), NONE);
            due("no chain came", x.now(8), 1);
        }
    }

    private static void tapeEmptyThen() {
        CHECK.part("5, 6, 7: The TAPE (empty then)");
        NoticeDesk x = new NoticeDesk();
        due("a land", Check.land(x, 1, "on 5;once 1"), 8);
        due("empty", x.count(0), 0);
        due("an empty text is a land again", x.land(1), 0);
        due("a way", Check.way(x, 0, "here end"), 2);
        due("empty", x.count(0), 0);
        due("an empty text is no way", x.way(0), NONE);
        due("a chain", Check.chain(x, 0, STAGE), 1);
        due("empty", x.count(0), 0);
        due("an empty text is no chain", x.chain(0), NONE);
    }

    // ---- a LAND's text

    private static void landEdges() {
        piecesBetweenSigns();
        onceEach();
        zones();
        rests();
        hours();
        yearly();
        byWeekdays();
        onceTold();
        twelveTogether();
    }

    private static void piecesBetweenSigns() {
        CHECK.part("Terms: PIECES with ; between (none for an empty TEXT)");
        faults(LAND, "", NONE, " ", NONE, ";", 0, " ;", 1, "on 1;", 5, "on 1 ; ", 7, ";on 1", 0, "on 1;;on 2", 5,
            "on 1 on 2", 5, "on 1,on 2", 4, "on 1;on 2", NONE, "kept moved", 5, "kept;zone 3", NONE);
    }

    private static void onceEach() {
        CHECK.part("Terms: zone, open, rest once each, kept and moved together once");
        faults(LAND, "zone 1;on 3;zone 1", 12, "open 9 17;on 3;open 9 17", 15, "rest 5 6;on 3;rest 5 6", 14,
            "kept;on 3;kept", 10, "kept;on 3;moved", 10, "moved;on 3;kept", 11, "moved;on 3;moved", 11,
            "zone 1;open 2 3;rest 4;kept;zone 5", 28, "zone 1;open 2 3;rest 4;moved", NONE,
            "rest 4;zone 1;kept;open 2 3", NONE);
        CHECK.part("Terms: any as often as one likes but");
        faults(LAND, "on 1;on 1;once 1;once 1;first 1 from 1;first 1 from 1", NONE);
    }

    private static void zones() {
        CHECK.part("Terms: zone N | zone - N (0 to 12; 0 without)");
        NoticeDesk x = new NoticeDesk();
        due("without", Check.land(x, 0, "kept"), 0);
        due("without", x.rule(0, 0), 0);
        for (int n = 0; n <= 12; n++) {
            due("ahead", Check.land(x, 0, "zone " + n), 0);
            due("zone " + n, x.rule(0, 0), n);
            due("behind", Check.land(x, 0, "zone -" + n), 0);
            due("zone -" + n, x.rule(0, 0), -n);
        }
        faults(LAND, "zone 13", 5, "zone -13", 6, "zone - 13", 7, "zone - - 1", 7, "zone 1 -", 7, "zone +1", 5,
            "zone 9999", 5, "-", 0, "- zone 1", 0, "on - 1", 3);
    }

    private static void rests() {
        CHECK.part("Terms: rest D {D} (WEEKDAYS 0 to 6, unlike, 1 to 6 of them; 5 6 without)");
        NoticeDesk x = new NoticeDesk();
        due("without", Check.land(x, 0, "zone 1"), 0);
        due("without", x.rule(0, 1), 96);
        for (int d = 0; d < 7; d++) {
            due("one", Check.land(x, 0, "rest " + d), 0);
            due("rest " + d, x.rule(0, 1), 1 << d);
            String six = "rest 0 1 2 3 4 5 6".replace(" " + d, "");
            due("six", Check.land(x, 0, six), 0);
            due(six, x.rule(0, 1), 127 - (1 << d));
            faults(LAND, six + " " + d, 17, "rest " + d + " " + d, 7);
        }
        faults(LAND, "rest", 4, "rest;kept", 4, "rest 7", 5, "rest 0 7", 7, "rest 9999", 5, "rest 1 2 3 1", 11,
            "rest 6 5 4 3 2 1", NONE, "rest 6 5 4 3 2 1;kept", NONE, "rest 6 5 4 3 2 1 7", 17, "rest 6 5 4 3 2 1 6", 17);
    }

    private static void hours() {
        CHECK.part("Terms: open N N (from 0 to 23, to 1 to 24, above the first one; 9 17 without)");
        NoticeDesk x = new NoticeDesk();
        due("without", Check.land(x, 0, "zone 1"), 0);
        due("without", x.rule(0, 2), 9);
        due("without", x.rule(0, 3), 17);
        for (int[] hours : new int[][] {{0, 1}, {0, 24}, {23, 24}, {11, 12}}) {
            due("open", Check.land(x, 0, "open " + hours[0] + " " + hours[1]), 0);
            due("from", x.rule(0, 2), hours[0]);
            due("to", x.rule(0, 3), hours[1]);
        }
        faults(LAND, "open 0 0", 7, "open 5 5", 7, "open 5 4", 7, "open 5 0", 7, "open 0 25", 7, "open 23 25", 8,
            "open 24 24", 5, "open 24 25", 5, "open 23 23", 8);
    }

    private static void yearly() {
        CHECK.part("Terms: on N (0 to 364)");
        NoticeDesk x = new NoticeDesk();
        // DAY 0, 365, .. 3650: their weekdays are 0 to 6, then 0 to 3.
        due("on 0", Check.land(x, 0, "rest 6;on 0"), 10);
        due("on 364: DAY 4014 is none", Check.land(x, 0, "rest 6;on 364"), 9);
        faults(LAND, "on 365", 3, "on 9999", 3, "on 0", NONE, "on 364", NONE);
    }

    private static void byWeekdays() {
        CHECK.part("Terms: first D from N (0 to 358)");
        faults(LAND, "first 0 from 0", NONE, "first 6 from 358", NONE, "first 0 from 359", 13, "first 6 from 359", 13,
            "first 0 from 9999", 13, "first 7 from 0", 6, "first 9 from 359", 6);
    }

    private static void onceTold() {
        CHECK.part("Terms: once N (that DAY)");
        NoticeDesk x = new NoticeDesk();
        due("once 0", Check.land(x, 0, "once 0"), 1);
        due("DAY 0", x.day(0, 0), 2);
        due("not of YEAR 1", x.day(0, 365), 0);
        due("once 3999", Check.land(x, 0, "once 3999"), 1);
        due("DAY 3999", x.day(0, 3999), 2);
        faults(LAND, "once 4000", 5, "once 9999", 5);
    }

    private static void twelveTogether() {
        CHECK.part("Terms: on, first, once 12 together at most");
        String[] words = {"on 1", "first 1 from 1", "once 1"};
        for (String word : words) {
            String twelve = (word + ";").repeat(11) + word;
            faults(LAND, twelve, NONE, twelve + ";zone 1;open 2 3;rest 4;moved", NONE, twelve + ";", twelve.length() + 1);
            CHECK.part("Terms: a 13th of on, first, once (at its word)");
            for (String more : words) {
                faults(LAND, twelve + ";" + more, twelve.length() + 1, "kept ;" + twelve + " ;  " + more,
                    twelve.length() + 10, twelve + ";" + more.substring(0, more.indexOf(' ')), twelve.length() + 1);
            }
        }
    }

    // ---- parts: words, numbers, blanks, other bytes

    private static void partEdges() {
        longWords();
        longNumbers();
        digits();
        blanks();
        smallLetters();
    }

    private static void longWords() {
        CHECK.part("Terms: Words go as long as they can");
        faults(LAND, "onon 3", 0, "on ce 3", 3, "once3", NONE, "on3;once3", NONE, "on 3on 4", 4, "keptmoved", 0,
            "first 3 fromon", 8, "on 3;zonekept", 5);
        faults(WAY, "hereend", 0, "here endend", 5, "begin end", NONE);
        faults(CHAIN, "by 0 from 0 to 1 wait 3 daysat 9", 24, "by0from0to1wait3days at9", NONE);
    }

    private static void longNumbers() {
        CHECK.part("Terms: so do NUMBERS");
        faults(LAND, "rest 12", 5, "rest 1 2", NONE, "open 917", 5, "open 9 17", NONE, "zone 1 2", 7);
        faults(WAY, "days 123", 5, "days 12 3", 8);
    }

    private static void digits() {
        CHECK.part("Terms: NUMBERS (1 to 4 digits)");
        faults(LAND, "once 1", NONE, "once 0001", NONE, "once 3999", NONE, "once 00001", 5, "once 00000", 5,
            "once 12345", 5, "once 4294967297", 5, "once 18446744073709551617", 5, "once " + "9".repeat(290), 5,
            "once " + "0".repeat(290), 5, "zone 0012", NONE, "zone 00012", 5, "rest 0000 0001", NONE, "rest 00 0", 8);
        faults(WAY, "work 0060", NONE, "work 00060", 5);
        faults(CHAIN, "by 0000 from 0001 to 0 wait 0099 days at 0023", NONE, "by 00000", 3);
    }

    private static void blanks() {
        CHECK.part("Terms: blanks (32) may stand ahead of and behind all");
        faults(LAND, "  zone  -  3  ;  rest  1  2  ;  on  5 ;  first  3  from  9  ;  open  1  2  ;  moved  ", NONE,
            "zone-3;rest1 2;on5;first3from9;open1 2;moved", NONE, "zone\t3", 4, "\nzone 3", 0, "zone 3\n", 6,
            "zone 3;\r", 7, "zone \u00a03", 5, "zone 3\u001f", 6, "zone 3!", 6, "zo ne 3", 0);
        faults(WAY, "   here   days   3   ", NONE, "here\tend", 4, "here_end", 4);
        faults(CHAIN, "  by  0  from  0  to  1  wait  3  days  at  9  ;  " + STAGE + "  ", NONE);
    }

    private static void smallLetters() {
        CHECK.part("Terms: Words (small letters)");
        faults(LAND, "Zone 3", 0, "zonE 3", 0, "on 3;oN 4", 5, "on 3;ON 4", 5, "kept@", 4, "kept`", 4, "kept{", 4,
            "kept[", 4, "zone`3", 4, "zone{3", 4, "zone 3/", 6, "zone 3:", 6, "zone /", 5, "zone :", 5);
        faults(WAY, "end`", 3, "end{", 3, "days 9:", 6, "days 9/", 6);
    }

    // ---- FAULT

    private static void faultEdges() {
        firstFault();
        unknownWord();
        otherBytes();
        endsTooEarly();
    }

    private static void firstFault() {
        CHECK.part("Terms: FAULT: where the first part begins that can't stand there");
        faults(LAND, "zone 13;bad", 5, "bad;zone 13", 0, "on 365;on 366", 3, "zone 3;on 365;?", 10, "rest 1 1 9", 7,
            "on kept", 3, "open 9 on 3", 7, "zone first", 5, "first on 3", 6, "first 3 3", 8, "once - 3", 5);
        faults(WAY, "days 100 bad", 5, "bad days 100", 0, "work here", 5);
        faults(CHAIN, "by 9 from 9", 3, "from 0 by 0", 0, "by from 0", 3);
    }

    private static void unknownWord() {
        CHECK.part("Terms: an unknown word");
        faults(LAND, "x", 0, "on 3;x", 5, "on 3;from 4", 5, "days 3", 0, "5", 0);
        faults(WAY, "x", 0, "here x", 5, "kept", 0, "by 0", 0);
        faults(CHAIN, "x", 0, "zone 3", 0, "here", 0, "by 0 from 0 to 1 wait 3 hours at 9", 24);
        String[] lands = {"zone 3", "zone - 3", "rest 3", "open 3 4", "on 3", "first 3 from 4", "once 3", "kept", "moved"};
        for (String piece : lands) {
            noOtherWord(LAND, piece);
        }
        String[] steps = {"here", "there", "office", "hours 3", "days 3", "work 3", "roll", "back", "begin", "end"};
        for (String step : steps) {
            noOtherWord(WAY, step);
        }
        noOtherWord(CHAIN, STAGE);
        noOtherWord(CHAIN, "by 0 from 0 to 1 wait 3 work at 9");
    }

    /** Each word of the text with a letter less, another letter, a letter more: the fault is where it begins. */
    private static void noOtherWord(int what, String text) {
        faults(what, text, NONE);
        int begin = 0;
        for (String part : text.split(" ")) {
            boolean word = Character.isLetter(part.charAt(0));
            for (int i = 0; word && i < part.length(); i++) {
                String ahead = text.substring(0, begin + i);
                String behind = text.substring(begin + i + 1);
                faults(what, ahead + "x" + behind, begin, ahead + "x" + part.charAt(i) + behind, begin);
                faults(what, ahead + part.charAt(i) + "x" + behind, begin);
                // "there" without its first letter is another step.
                faults(what, ahead + behind, (ahead + behind).equals("here") ? NONE : begin);
            }
            begin += part.length() + 1;
        }
    }

    private static void otherBytes() {
        CHECK.part("Terms: any other byte");
        NoticeDesk x = new NoticeDesk();
        for (int value = 1; value < 256; value++) {
            boolean letter = value >= 'a' && value <= 'z';
            boolean digit = value >= '0' && value <= '9';
            x.end(0);
            x.feed(0x6b657074, value, 0, 0, 0);
            int want = value == ' ' ? NONE : letter ? 0 : value == ';' ? 5 : 4;
            due("kept and byte " + value, x.fault(LAND), want);
            x.end(0);
            x.feed(0x64617973, 0x31, value, 0, 0);
            want = value == ' ' || digit ? NONE : 5;
            due("days1 and byte " + value, x.fault(WAY), want);
        }
    }

    private static void endsTooEarly() {
        CHECK.part("Terms: the length, if the TEXT ends too early");
        String[] lands = {"zone", "zone -", "rest", "open", "open 9", "on", "first", "first 3", "first 3 from", "once",
            "kept;"};
        for (String text : lands) {
            faults(LAND, text, text.length(), text + "   ", text.length() + 3, "on 3 ; " + text, text.length() + 7);
        }
        String[] ways = {"", "hours", "days", "work", "here work"};
        for (String text : ways) {
            faults(WAY, text, text.length(), text + "  ", text.length() + 2);
        }
        String begun = "";
        for (String part : STAGE.split(" ")) {
            faults(CHAIN, begun, begun.length(), begun + "  ", begun.length() + 2, STAGE + ";" + begun, begun.length() + 34);
            begun = begun.isEmpty() ? part : begun + " " + part;
        }
        faults(CHAIN, begun, NONE);
    }

    // ---- a WAY's text

    private static void wayEdges() {
        oneToTwelveSteps();
        blanksBetweenSteps();
        stepNumbers();
    }

    private static void oneToTwelveSteps() {
        CHECK.part("Terms: STEPS, 1 to 12");
        NoticeDesk x = new NoticeDesk();
        due("none", Check.way(x, 0, ""), NONE);
        for (int steps = 1; steps <= 12; steps++) {
            due("steps", Check.way(x, 0, "work 1 ".repeat(steps)), steps);
        }
        CHECK.part("Terms: a 13th STEP at its word");
        String twelve = "days 9 ".repeat(12);
        String[] words = {"here", "there", "office", "hours 1", "days 1", "work 1", "roll", "back", "begin", "end"};
        for (String word : words) {
            faults(WAY, twelve + word, 84, twelve + "  " + word + " end", 86);
            due("each of them is one", Check.way(x, 0, word), 1);
        }
        faults(WAY, twelve, NONE, twelve + "5", 84, twelve + "hours", 84);
    }

    private static void blanksBetweenSteps() {
        CHECK.part("Terms: with blanks between (or none where a word and a NUMBER meet)");
        faults(WAY, "here there", NONE, "herethere", 0, "here;there", 4, "here,there", 4, "days5work2", NONE,
            "days5 work2", NONE, "days 5work 2", NONE, "hours3end", NONE, "end hours3", NONE, "endhours3", 0, "here 5", 5,
            "here5", 4);
    }

    private static void stepNumbers() {
        CHECK.part("Terms: N: 0 to 99 (work: 1 to 60)");
        faults(WAY, "hours 0", NONE, "hours 99", NONE, "hours 100", 6, "days 0", NONE, "days 99", NONE, "days 100", 5,
            "work 0", 5, "work 1", NONE, "work 60", NONE, "work 61", 5, "work 99", 5, "hours 9999", 6);
        for (String word : new String[] {"here", "there", "office", "roll", "back", "begin", "end"}) {
            faults(WAY, word, NONE, word + " 1", word.length() + 1);
        }
        for (String word : new String[] {"hours", "days", "work"}) {
            faults(WAY, word + " end", word.length() + 1, word + " -1", word.length() + 1, word + " 1 1", word.length() + 3);
        }
    }

    // ---- a CHAIN's text

    private static void chainEdges() {
        oneToSixStages();
        stageNumbers();
        wayThatThereIs();
        stagesBetweenSigns();
    }

    private static void oneToSixStages() {
        CHECK.part("Terms: STAGES with ; between, 1 to 6");
        NoticeDesk x = Check.desk("", "", "here");
        due("none", Check.chain(x, 0, ""), NONE);
        String text = STAGE;
        for (int stages = 1; stages <= 6; stages++) {
            due("stages", Check.chain(x, 0, text), stages);
            text = text + ";" + STAGE;
        }
        due("seven", Check.chain(x, 0, text), NONE);
        CHECK.part("Terms: a seventh STAGE at its word");
        String six = (STAGE + ";").repeat(5) + STAGE;
        faults(CHAIN, six, NONE, six + ";" + STAGE, 204, six + " ;  by", 207, six + ";", 204, six + "; 5", 205);
    }

    private static void stageNumbers() {
        CHECK.part("Terms: LANDS, 0 to 99, 0 to 23");
        faults(CHAIN, "by 0 from 0 to 0 wait 0 days at 0", NONE, "by 0 from 1 to 1 wait 99 work at 23", NONE,
            "by 0 from 2 to 0 wait 0 days at 0", 10, "by 0 from 0 to 2 wait 0 days at 0", 15,
            "by 0 from 0 to 0 wait 100 days at 0", 22, "by 0 from 0 to 0 wait 100 work at 0", 22,
            "by 0 from 0 to 0 wait 0 days at 24", 32, "by 0 from 0 to 0 wait 0 work at 24", 32);
    }

    private static void wayThatThereIs() {
        CHECK.part("Terms: a WAY that there is");
        NoticeDesk x = new NoticeDesk();
        for (int way = 0; way < 8; way++) {
            String text = "by " + way + " from 0 to 0 wait 0 days at 0";
            due("not yet", Check.fault(x, CHAIN, text), 3);
            due("told", Check.way(x, way, "here"), 1);
            due("now", Check.fault(x, CHAIN, text), NONE);
            due("no way is told by a fault", Check.way(x, way, "her"), NONE);
            due("it is still there", Check.chain(x, 0, text), 1);
        }
        due("WAY 8", Check.fault(x, CHAIN, "by 8"), 3);
        due("WAY 9999", Check.fault(x, CHAIN, "by 9999"), 3);
    }

    private static void stagesBetweenSigns() {
        CHECK.part("Terms: by N from N to N wait N days at N | .. work at N");
        faults(CHAIN, STAGE + STAGE, 33, STAGE + " " + STAGE, 34, STAGE + ";;" + STAGE, 34, ";" + STAGE, 0,
            STAGE + ";", 34, STAGE + " 9", 34, "by 0 from 0 to 1 wait 3 days work at 9", 29,
            "by 0 from 0 to 1 wait days at 9", 22, "by 0 to 1 from 0 wait 3 days at 9", 5, "by - 0", 3);
    }
}
