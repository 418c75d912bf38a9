/** Promises 1 to 7, 25 and 26: who is there, who sits where, WISHES and FALLS. */
public final class StallsTest {
    public static void main(String[] args) {
        newObject();
        stall();
        canon();
        wish();
        takes();
        leaves();
        moved();
        fallByWorthAndOrder();
        fallTakesEqualWorthNever();
        newStallIsTheLatestFall();
        longestFall();
        about();
        count();
        Check.finish("StallsTest");
    }

    private static void newObject() {
        StallBook x = new StallBook();
        for (int what = 0; what <= 7; what++) {
            Check.due("new: count(" + what + ")", x.count(what), 0);
        }
        Check.due("new: count(20)", x.count(20), -1);
        Check.due("new: about(0, 0)", x.about(0, 0), -1);
        Check.due("new: moved(0, 0)", x.moved(0, 0), -1);
        Check.due("new: vote(3)", x.vote(3), -1);
        Check.due("new: holds(0, 0, 0)", x.holds(0, 0, 0), 2);
    }

    private static void stall() {
        StallBook x = new StallBook();
        Check.due("stall(-1)", x.stall(-1), -1);
        Check.due("stall(1001)", x.stall(1001), -1);
        Check.due("stall(MIN)", x.stall(Integer.MIN_VALUE), -1);
        Check.due("count(1) after wrong ones", x.count(1), 0);
        for (int stall = 0; stall < 12; stall++) {
            Check.due("stall", x.stall(stall == 0 ? 0 : 1000), stall);
        }
        Check.due("stall of 12", x.stall(5), -1);
        Check.due("count(1) of 12", x.count(1), 12);
        StallBook over = new StallBook();
        Check.nights(over, 400);
        Check.due("stall at the end", over.stall(5), -1);
    }

    private static void canon() {
        StallBook x = Check.withCanons(20);
        Check.due("canon of 20", x.canon(), -1);
        Check.due("count(2) of 20", x.count(2), 20);
        Check.due("leaves(3)", x.leaves(3), 0);
        Check.due("canon of 20, one left", x.canon(), -1);
        Check.due("about(0, 1) without a STALL", x.about(0, 1), -1);
        StallBook over = new StallBook();
        Check.nights(over, 400);
        Check.due("canon at the end", over.canon(), -1);
    }

    private static void wish() {
        StallBook x = Check.withCanons(2);
        Check.due("wish without the STALL", x.wish(0, 0, true), false);
        x.stall(10);
        Check.due("wish", x.wish(0, 0, true), true);
        Check.due("wish again", x.wish(0, 0, true), false);
        Check.due("wish no more", x.wish(0, 0, false), true);
        Check.due("wish no more again", x.wish(0, 0, false), false);
        Check.due("no wish yet", x.wish(1, 0, false), false);
        Check.due("wish without the CANON", x.wish(2, 0, true), false);
        Check.due("wish(-1, 0)", x.wish(-1, 0, true), false);
        Check.due("wish(0, -1)", x.wish(0, -1, true), false);
        Check.due("wish(0, 1)", x.wish(0, 1, true), false);
        x.leaves(1);
        Check.due("wish of one who left", x.wish(1, 0, true), true);
        Check.nights(x, 400);
        Check.due("wish at the end", x.wish(0, 0, true), false);
    }

    private static void takes() {
        StallBook x = Check.withCanons(3);
        x.stall(10);
        x.stall(20);
        Check.due("takes(0, 0)", x.takes(0, 0), true);
        Check.due("takes his own again", x.takes(0, 0), false);
        Check.due("takes a second one", x.takes(0, 1), false);
        Check.due("takes what another has", x.takes(1, 0), false);
        Check.due("count(20)", x.count(20), 0);
        Check.due("count(21)", x.count(21), -1);
        Check.due("takes(3, 1)", x.takes(3, 1), false);
        Check.due("takes(-1, 1)", x.takes(-1, 1), false);
        Check.due("takes(1, 2)", x.takes(1, 2), false);
        Check.due("takes(1, -1)", x.takes(1, -1), false);
        x.leaves(2);
        Check.due("takes of one who left", x.takes(2, 1), false);
        Check.due("takes(1, 1)", x.takes(1, 1), true);
        x.leaves(0);
        Check.due("canon", x.canon(), 3);
        Check.nights(x, 400);
        Check.due("takes at the end", x.takes(3, 0), false);
    }

    private static void leaves() {
        StallBook x = Check.withCanons(2);
        x.stall(10);
        x.takes(0, 0);
        x.wish(1, 0, true);
        Check.due("leaves(-1)", x.leaves(-1), -1);
        Check.due("leaves(2)", x.leaves(2), -1);
        Check.due("leaves(0)", x.leaves(0), 1);
        Check.due("leaves(0) again", x.leaves(0), -1);
        Check.due("about(0, 0)", x.about(0, 0), 0);
        Check.due("about(0, 1)", x.about(0, 1), -1);
        Check.due("about(1, 1)", x.about(1, 1), 0);
        Check.due("count(3)", x.count(3), 1);
        Check.due("count(20)", x.count(20), 1);
        Check.nights(x, 400);
        Check.due("leaves at the end", x.leaves(1), -1);
        Check.due("still there", x.about(1, 0), 1);
    }

    private static void moved() {
        StallBook x = Check.withCanons(4);
        x.stall(30);
        x.stall(20);
        x.takes(0, 0);
        x.takes(1, 1);
        x.wish(1, 0, true);
        x.wish(2, 1, true);
        Check.due("leaves(0)", x.leaves(0), 2);
        int[][] want = {{1, 1, 0}, {2, -1, 1}};
        for (int k = 0; k < 2; k++) {
            for (int what = 0; what < 3; what++) {
                Check.due("moved(" + k + ", " + what + ")", x.moved(k, what), want[k][what]);
            }
        }
        Check.due("moved(2, 0)", x.moved(2, 0), -1);
        Check.due("moved(-1, 0)", x.moved(-1, 0), -1);
        Check.due("moved(0, 3)", x.moved(0, 3), -1);
        Check.due("moved(0, -1)", x.moved(0, -1), -1);
        Check.due("leaves(0) again", x.leaves(0), -1);
        Check.due("a refused call keeps it", x.moved(1, 0), 2);
        Check.due("leaves(3) without a STALL", x.leaves(3), 0);
        Check.due("its FALL has no MOVES", x.moved(0, 0), -1);
        Check.due("leaves(1)", x.leaves(1), 0);
        Check.due("a STALL not wished for stays free", x.count(20), -1);
        x.canon();
        x.wish(4, 0, true);
        Check.due("a WISH alone moves nobody", x.about(4, 1), -1);
    }

    private static void fallByWorthAndOrder() {
        StallBook x = Check.withCanons(5);
        x.stall(10);
        x.stall(30);
        x.stall(20);
        x.takes(0, 1);
        x.takes(2, 2);
        x.takes(3, 0);
        x.wish(4, 1, true);
        x.wish(2, 1, true);
        x.wish(3, 1, true);
        x.wish(3, 2, true);
        x.wish(1, 1, true);
        x.leaves(1);
        Check.due("who left is passed over, the first by ORDER goes", x.leaves(0), 2);
        Check.due("moved(0, 0)", x.moved(0, 0), 2);
        Check.due("moved(0, 1)", x.moved(0, 1), 2);
        Check.due("moved(0, 2)", x.moved(0, 2), 1);
        Check.due("moved(1, 0)", x.moved(1, 0), 3);
        Check.due("moved(1, 1)", x.moved(1, 1), 0);
        Check.due("moved(1, 2)", x.moved(1, 2), 2);
        Check.due("count(20)", x.count(20), -1);
        Check.due("count(21)", x.count(21), 2);
        Check.due("count(22)", x.count(22), 3);
    }

    private static void fallTakesEqualWorthNever() {
        StallBook x = Check.withCanons(3);
        x.stall(10);
        x.stall(10);
        x.stall(0);
        x.takes(0, 0);
        x.takes(1, 1);
        x.wish(1, 0, true);
        Check.due("leaves(0), the other's is worth as much", x.leaves(0), 0);
        x.wish(2, 2, true);
        x.canon();
        x.takes(3, 2);
        Check.due("who has none takes one worth nothing", x.leaves(3), 1);
        Check.due("about(2, 1)", x.about(2, 1), 2);
    }

    private static void newStallIsTheLatestFall() {
        StallBook x = Check.withCanons(2);
        x.stall(10);
        x.takes(1, 0);
        x.wish(0, 0, true);
        Check.due("leaves(1)", x.leaves(1), 1);
        Check.due("the first CANON moved", x.moved(0, 0), 0);
        Check.due("stall(1001)", x.stall(1001), -1);
        Check.due("a refused one keeps the MOVES", x.moved(0, 0), 0);
        Check.due("stall(20)", x.stall(20), 1);
        Check.due("a new one has none", x.moved(0, 0), -1);
        Check.due("count(21)", x.count(21), -1);
    }

    private static void longestFall() {
        StallBook x = Check.withCanons(13);
        for (int stall = 0; stall < 12; stall++) {
            x.stall(1000 - stall);
            x.takes(stall, stall);
            x.wish(stall + 1, stall, true);
        }
        Check.due("leaves(0), all move up", x.leaves(0), 12);
        for (int k = 0; k < 12; k++) {
            Check.due("moved(" + k + ", 0)", x.moved(k, 0), k + 1);
            Check.due("moved(" + k + ", 1)", x.moved(k, 1), k == 11 ? -1 : k + 1);
            Check.due("moved(" + k + ", 2)", x.moved(k, 2), k);
            Check.due("count(" + (20 + k) + ")", x.count(20 + k), k + 1);
        }
    }

    private static void about() {
        StallBook x = Check.withCanons(2);
        x.stall(7);
        x.stall(1000);
        x.takes(0, 1);
        x.takes(1, 0);
        x.mark(0, 0, 0, 1);
        x.box(0, 50);
        x.night();
        x.night();
        Check.due("about(0, 0)", x.about(0, 0), 1);
        Check.due("about(0, 2)", x.about(0, 2), 50);
        Check.due("about(0, 3)", x.about(0, 3), 2000);
        Check.due("about(1, 1)", x.about(1, 1), 0);
        Check.due("about(1, 2)", x.about(1, 2), 0);
        Check.due("about(1, 3)", x.about(1, 3), 14);
        x.leaves(1);
        x.night();
        Check.due("about(1, 3) of one who left", x.about(1, 3), 14);
        Check.due("about(2, 0)", x.about(2, 0), -1);
        Check.due("about(-1, 0)", x.about(-1, 0), -1);
        Check.due("about(0, 4)", x.about(0, 4), -1);
        Check.due("about(0, -1)", x.about(0, -1), -1);
    }

    private static void count() {
        StallBook x = Check.withCanons(3);
        x.stall(7);
        x.stall(8);
        x.takes(1, 0);
        x.leaves(2);
        x.mark(2, 0, 0, 1);
        x.box(1, 9);
        Check.nights(x, 2);
        Check.tape(x, "choir 1");
        int[] want = {2, 2, 3, 2, 1, 0, 7, 9};
        for (int what = 0; what < want.length; what++) {
            Check.due("count(" + what + ")", x.count(what), want[what]);
        }
        Check.due("count(20)", x.count(20), 1);
        Check.due("count(21)", x.count(21), -1);
        for (int what : new int[] {-1, 8, 19, 22, 31, 32, Integer.MAX_VALUE, Integer.MIN_VALUE}) {
            Check.due("count(" + what + ")", x.count(what), -1);
        }
    }
}
