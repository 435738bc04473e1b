import java.util.NoSuchElementException;

/** What the tests share: texts told to a desk, answers compared with those that are due. */
final class Check {
    private int wrong;
    private int asked;
    private String part = "";

    /** Names what is tested from here on. */
    void part(String name) {
        part = name;
    }

    void due(String call, long got, long want) {
        asked++;
        if (got != want) {
            wrong++;
            System.out.println(part + ": " + call + " answered " + got + ", due is " + want);
        }
    }

    void due(String call, boolean got, boolean want) {
        due(call, got ? 1 : 0, want ? 1 : 0);
    }

    void dueThrows(String call, NoticeDesk desk, int notice, int what) {
        asked++;
        try {
            int got = desk.notice(notice, what);
            wrong++;
            System.out.println(part + ": " + call + " answered " + got + ", due is NoSuchElementException");
        } catch (NoSuchElementException due) {
            return;
        }
    }

    /** Of each text, as a LAND (0), a WAY (1), a CHAIN (2), the FAULT that stands behind it. */
    void faults(NoticeDesk desk, int what, Object... textsAndFaults) {
        for (int i = 0; i < textsAndFaults.length; i += 2) {
            String text = (String) textsAndFaults[i];
            due("fault " + what + " of '" + text + "'", fault(desk, what, text), (Integer) textsAndFaults[i + 1]);
        }
    }

    /** Ends the test's process with 1 if an answer was wrong. */
    void close() {
        System.out.println(asked + " answers, " + wrong + " wrong");
        if (wrong > 0) {
            System.exit(1);
        }
    }

    /** A new desk with these lands, and with these ways from WAY 0 on. */
    static NoticeDesk desk(String land0, String land1, String... ways) {
        NoticeDesk desk = new NoticeDesk();
        mustBeTold(land(desk, 0, land0), land0);
        mustBeTold(land(desk, 1, land1), land1);
        for (int i = 0; i < ways.length; i++) {
            mustBeTold(way(desk, i, ways[i]), ways[i]);
        }
        return desk;
    }

    /** Tells these chains, from CHAIN 0 on. */
    static NoticeDesk chains(NoticeDesk desk, String... chains) {
        for (int i = 0; i < chains.length; i++) {
            mustBeTold(chain(desk, i, chains[i]), chains[i]);
        }
        return desk;
    }

    private static void mustBeTold(int answer, String text) {
        if (answer == NoticeDesk.NONE) {
            throw new IllegalStateException("a test's own text was refused: " + text);
        }
    }

    /** Empties the tape, then feeds the text. */
    static void feed(NoticeDesk desk, String text) {
        desk.end(0);
        for (int[] five : numbers(text)) {
            desk.feed(five[0], five[1], five[2], five[3], five[4]);
        }
    }

    static int fault(NoticeDesk desk, int what, String text) {
        feed(desk, text);
        return desk.fault(what);
    }

    static int land(NoticeDesk desk, int land, String text) {
        feed(desk, text);
        return desk.land(land);
    }

    static int way(NoticeDesk desk, int way, String text) {
        feed(desk, text);
        return desk.way(way);
    }

    static int chain(NoticeDesk desk, int chain, String text) {
        feed(desk, text);
        return desk.chain(chain);
    }

    /** A text as rows of five numbers, twenty bytes a row. */
    static int[][] numbers(String text) {
        int[][] rows = new int[(text.length() + 19) / 20][5];
        for (int i = 0; i < text.length(); i++) {
            rows[i / 20][i % 20 / 4] |= text.charAt(i) << 24 - 8 * (i % 4);
        }
        return rows;
    }
}
