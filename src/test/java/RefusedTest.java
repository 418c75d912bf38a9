/**
 * "NONE, and nothing happens", "false, and nothing happens": every kind of refused call, each on a book
 * that holds something of everything. Run holds each against a book on which the call was never made.
 */
public final class RefusedTest {
    /** MOVES, WISHES, MARKS put right, BOXES, an ACT, another one UNDONE, and a text on the TAPE. */
    private static final String RICH = """
        5 x canon(); stall(30); stall(20); stall(10); takes(0, 0); takes(1, 1); wish(1, 0, true); wish(2, 1, true)
        wish(3, 0, true); wish(4, 2, true); box(0, 10); box(1, 20); box(2, 30); mark(1, 0, 0, 1); mark(2, 0, 3, 2)
        tape('choir 3;proxy 2'); open(); votes(1, true); votes(2, true); votes(3, true); close(0) = 0
        open(); votes(1, true); votes(2, true); votes(3, true); close(0) = 1; night(); undo(1); mark(1, 0, 0, 3)
        leaves(0) = 2; mark(1, 1, 6, 1); tape('late 7;hour 6 4')
        """;
    private static final String OPEN = """
        open(); votes(1, true); votes(2, false); gives(3, 1); tape('ill 5')
        """;
    private static final String CLOSED = """
        open(); votes(1, true); votes(2, false); gives(3, 1); close(1) = 2; tape('ill 5')
        """;

    private static final String[] NEVER = {
        "stall(-1) = -1", "stall(1001) = -1", "wish(-1, 0, true) = false", "wish(5, 0, true) = false",
        "wish(1, -1, true) = false", "wish(1, 3, true) = false", "wish(1, 0, true) = false", "wish(4, 0, false) = false",
        "takes(-1, 2) = false", "takes(5, 2) = false", "takes(0, 2) = false", "takes(3, -1) = false", "takes(3, 3) = false",
        "takes(1, 2) = false", "takes(3, 0) = false", "takes(1, 0) = false", "takes(2, 0) = false",
        "leaves(-1) = -1", "leaves(5) = -1", "leaves(0) = -1",
        "mark(-1, 0, 0, 1) = -1", "mark(5, 0, 0, 1) = -1", "mark(1, -1, 0, 1) = -1", "mark(1, 2, 0, 1) = -1",
        "mark(1, 0, -1, 1) = -1", "mark(1, 0, 7, 1) = -1", "mark(1, 0, 0, -1) = -1", "mark(1, 0, 0, 5) = -1",
        "box(-1, 5) = false", "box(0, 5) = false", "box(400, 5) = false", "box(3, -1) = false", "box(3, 100001) = false",
        "box(1, 5) = false", "box(2, 0) = false", "end(-1) = -1", "end(6) = -1", "end(MAX) = -1",
        "close(-1) = -1", "close(400) = -1", "undo(-1) = false", "undo(1) = false", "undo(3) = false", "undo(10) = false",
        "votes(-1, true) = false", "votes(5, true) = false", "votes(0, true) = false",
        "gives(-1, 4) = false", "gives(5, 4) = false", "gives(0, 4) = false", "gives(4, -1) = false", "gives(4, 5) = false",
        "gives(4, 0) = false", "gives(4, 4) = false", "gives(2, 2) = false", "gives(1, 4) = false", "gives(2, 3) = false",
    };
    private static final String[] WHILE_OPEN = {
        "open() = -1", "end(0); open() = -1", "tape('choir'); open() = -1", "tape('choir 9'); open() = -1",
        "gives(4, 1); gives(2, 1) = false", "gives(4, 1); gives(1, 2) = false", "undo(2) = false",
    };
    private static final String[] WHILE_CLOSED = {
        "close(0) = -1", "votes(1, true) = false", "votes(1, false) = false", "votes(2, true) = false",
        "gives(2, 1) = false", "gives(3, 2) = false", "gives(4, 1) = false",
    };
    private static final String[] AT_THE_END = {
        "stall(5) = -1", "stall(-1) = -1", "canon() = -1", "wish(4, 0, true) = false", "wish(1, 0, false) = false",
        "takes(3, 2) = false", "takes(1, 2) = false", "leaves(1) = -1", "leaves(2) = -1", "leaves(3) = -1", "leaves(4) = -1",
        "mark(1, 0, 0, 1) = -1", "mark(1, 399, 0, 1) = -1", "mark(1, 400, 0, 1) = -1", "box(399, 5) = false",
        "box(400, 5) = false", "night() = -1", "open() = -1", "votes(1, false) = false", "votes(3, false) = false",
        "gives(4, 1) = false", "gives(2, 1) = false", "close(0) = -1", "close(399) = -1", "close(400) = -1",
        "undo(0) = false", "undo(1) = false", "undo(2) = false",
    };
    private static final String[] FULL = {
        "stall(5) = -1", "stall(0) = -1", "canon() = -1", "feed(1, 2, 3, 4, 5) = -1", "end(201) = -1", "open() = -1",
        "end(181); feed(0, 0, 0, 0, 0) = -1", "wish(20, 11, true) = false", "wish(19, 12, true) = false",
        "takes(20, 11) = false", "takes(19, 12) = false", "leaves(20) = -1", "undo(10) = false", "undo(9) = false",
        "close(0) = -1", "end(0); open() = -1",
    };

    public static void main(String[] args) {
        each("while a VOTE is OPEN", RICH + OPEN, NEVER);
        each("while a VOTE is OPEN", RICH + OPEN, WHILE_OPEN);
        each("while none is OPEN", RICH + CLOSED, NEVER);
        each("while none is OPEN", RICH + CLOSED, WHILE_CLOSED);
        each("at the end, a VOTE OPEN", RICH + OPEN + "399 x night() = 400\n", AT_THE_END);
        each("at the end, none OPEN", RICH + CLOSED + "399 x night() = 400\n", AT_THE_END);
        each("in a full book", full(), FULL);
        asking(RICH + OPEN);
        Check.finish("RefusedTest");
    }

    private static void each(String when, String book, String[] refused) {
        for (String call : refused) {
            Run.shows(when, book + call);
        }
    }

    private static String full() {
        StringBuilder rows = new StringBuilder("canon()\n");
        for (int act = 0; act < 10; act++) {
            rows.append("open(); votes(0, true); close(0) = " + act + "\n");
        }
        rows.append("19 x canon(); 12 x stall(7); takes(0, 0); wish(19, 0, true); leaves(0) = 1; undo(9)\n");
        rows.append("10 x feed(1667788649, 1914712352, 538976288, 538976288, 538976288) = 200\n");
        return rows.toString();
    }

    /** What only asks changes nothing, whatever it is asked. */
    private static void asking(String book) {
        int[] odd = {-1, 0, 1, 3, 7, 20, 399, 400, Integer.MIN_VALUE, Integer.MAX_VALUE};
        for (int n : odd) {
            for (String call : new String[] {"moved(0, %d)", "moved(%d, 0)", "marked(%d, 0, 0, 0)", "marked(1, %d, 0, 0)",
                "marked(1, 0, %d, 0)", "marked(1, 0, 0, %d)", "points(%d, 0, 0)", "points(1, %d, 0)", "points(1, 0, %d)",
                "share(%d, 0, 0)", "share(1, %d, 0)", "share(1, 0, %d)", "paid(%d, 0)", "paid(1, %d)", "back(%d)",
                "holds(%d, 0, 0)", "holds(0, %d, 0)", "holds(0, 0, %d)", "vote(%d)", "about(%d, 0)", "about(1, %d)",
                "count(%d)"}) {
                Run.shows("what only asks", book + String.format(call, n) + " = any");
            }
        }
    }
}
