import java.util.ArrayList;
import java.util.List;

/**
 * Runs of calls that bring to light all that a book holds, also what no asking call
 * tells: WISHES, the bytes of the TAPE, the text that is voted on, who gave a vote to whom.
 * Two books that answer them alike are the same. Each view begins with a book of its own.
 */
final class Views {
    static final List<List<Calls.Call>> ALL = new ArrayList<>();

    private static final int[][] DAY_AND_KNOWN = {{0, 0}, {0, 1}, {0, 399}, {1, 1}, {1, 2}, {2, 2}, {3, 399}, {398, 398},
        {398, 399}, {399, 399}};

    private static List<Calls.Call> view;

    static {
        counts();
        people();
        moves();
        marks();
        shares();
        statutes();
        theTape();
        theVote();
        proxies();
        wishes(0, 7);
        wishes(14, 20);
        falls();
        boxes();
        undone();
        limits();
        aNight();
    }

    private Views() {
    }

    private static void begin() {
        view = new ArrayList<>();
        ALL.add(view);
    }

    private static void add(String name, int... given) {
        view.add(Calls.Call.of(name, given));
    }

    private static void counts() {
        begin();
        for (int what = 0; what < 8; what++) {
            add("count", what);
        }
        for (int what = 20; what < 32; what++) {
            add("count", what);
        }
        for (int what = 0; what < 4; what++) {
            add("vote", what);
        }
        for (int canon = 0; canon < 20; canon++) {
            add("back", canon);
        }
        for (int canon = 0; canon < 20; canon++) {
            add("about", canon, 0);
        }
    }

    private static void people() {
        begin();
        for (int canon = 0; canon < 20; canon++) {
            for (int what = 1; what < 4; what++) {
                add("about", canon, what);
            }
        }
    }

    private static void moves() {
        begin();
        for (int k = 0; k < 13; k++) {
            for (int what = 0; what < 3; what++) {
                add("moved", k, what);
            }
        }
    }

    private static void marks() {
        begin();
        for (int[] pair : DAY_AND_KNOWN) {
            for (int canon = 0; canon < 3; canon++) {
                for (int hour = 0; hour < 7; hour += 3) {
                    add("marked", canon, pair[0], hour, pair[1]);
                }
            }
        }
    }

    private static void shares() {
        begin();
        for (int[] pair : DAY_AND_KNOWN) {
            for (int canon = 0; canon < 4; canon++) {
                add("points", canon, pair[0], pair[1]);
                add("share", canon, pair[0], pair[1]);
            }
            add("paid", 0, pair[0]);
            add("paid", 1, pair[0]);
        }
    }

    private static void statutes() {
        begin();
        for (int[] pair : DAY_AND_KNOWN) {
            for (int what : new int[] {0, 1, 2, 3, 4, 5, 6, 10, 13, 16}) {
                add("holds", pair[0], pair[1], what);
            }
        }
    }

    private static void whatPasses() {
        for (int canon = 0; canon < 20; canon++) {
            add("votes", canon, 1);
        }
        add("close", 0);
        for (int what = 0; what < 17; what++) {
            add("holds", 399, 399, what);
        }
    }

    private static void theTape() {
        begin();
        add("open");
        whatPasses();
        begin();
        add("close", 0);
        add("open");
        whatPasses();
    }

    private static void theVote() {
        begin();
        whatPasses();
        begin();
        add("close", 0);
        add("count", 5);
        for (int what = 0; what < 4; what++) {
            add("vote", what);
        }
    }

    private static void proxies() {
        begin();
        for (int to = 0; to < 5; to++) {
            for (int canon = 0; canon < 5; canon++) {
                add("gives", canon, to);
            }
            add("votes", to, to & 1);
            add("vote", 0);
            add("vote", 1);
        }
        begin();
        for (int canon = 4; canon >= 0; canon--) {
            add("votes", canon, canon & 1);
            add("vote", 0);
            add("vote", 1);
        }
    }

    private static void wishes(int from, int to) {
        begin();
        for (int canon = from; canon < to; canon++) {
            for (int stall = 0; stall < 12; stall++) {
                add("wish", canon, stall, 1);
            }
        }
    }

    private static void falls() {
        begin();
        for (int canon = 0; canon < 13; canon++) {
            add("leaves", canon);
            add("moved", 0, 0);
            add("moved", 0, 2);
            add("moved", 1, 0);
        }
    }

    private static void boxes() {
        begin();
        for (int day = 0; day < 10; day++) {
            add("box", day, 7);
        }
        for (int day = 395; day < 400; day++) {
            add("box", day, 7);
        }
        for (int night = 0; night < 8; night++) {
            add("night");
            add("count", 7);
            add("about", 0, 2);
        }
    }

    private static void undone() {
        begin();
        for (int act = 0; act < 10; act++) {
            add("undo", act);
            add("holds", 399, 399, 6);
        }
    }

    /** How many more of each there may be. */
    private static void limits() {
        begin();
        for (int i = 0; i < 12; i++) {
            add("stall", i);
            add("canon");
            add("feed", i, i, i, i, i);
        }
        for (int i = 0; i < 9; i++) {
            add("canon");
            add("mark", i, 0, 0, 1);
        }
        add("end", 1);
        add("count", 6);
    }

    private static void aNight() {
        begin();
        add("night");
        for (int what = 0; what < 8; what++) {
            add("count", what);
        }
        for (int canon = 0; canon < 20; canon++) {
            add("about", canon, 2);
            add("about", canon, 3);
            add("paid", canon, 0);
        }
    }
}
