/** Promises 8 to 15: MARKS, BOX, NIGHT, POINTS, SHARES, PAID and BACK. */
public final class MarksTest {
    private static final int[] WRONG_DAYS = {-1, 400, Integer.MIN_VALUE, Integer.MAX_VALUE};

    public static void main(String[] args) {
        mark();
        markLimit();
        box();
        night();
        marked();
        points();
        pointsByActs();
        share();
        shareRest();
        shareOfMost();
        paid();
        back();
        backByActs();
        backOfOneCoin();
        theEnd();
        Check.finish("MarksTest");
    }

    private static void mark() {
        StallBook x = Check.withCanons(2);
        Check.due("mark(0, 0, 0, 1)", x.mark(0, 0, 0, 1), 1);
        Check.due("mark(0, 0, 6, 4)", x.mark(0, 0, 6, 4), 2);
        Check.due("a DAY behind NOW", x.mark(0, 1, 0, 1), -1);
        Check.due("mark(-1, ..)", x.mark(-1, 0, 0, 1), -1);
        Check.due("mark(2, ..)", x.mark(2, 0, 0, 1), -1);
        Check.due("DAY -1", x.mark(0, -1, 0, 1), -1);
        Check.due("HOUR -1", x.mark(0, 0, -1, 1), -1);
        Check.due("HOUR 7", x.mark(0, 0, 7, 1), -1);
        Check.due("MARK -1", x.mark(0, 0, 0, -1), -1);
        Check.due("MARK 5", x.mark(0, 0, 0, 5), -1);
        x.leaves(1);
        Check.due("of one who left", x.mark(1, 0, 0, 0), 3);
        Check.nights(x, 2);
        Check.due("NOW", x.mark(0, 2, 0, 1), 4);
        Check.due("a DAY that is over", x.mark(0, 0, 0, 2), 5);
        Check.due("count(4)", x.count(4), 5);
        Check.nights(x, 398);
        Check.due("at the end", x.mark(0, 0, 0, 1), -1);
    }

    private static void markLimit() {
        StallBook x = Check.withCanons(1);
        for (int i = 1; i <= 400; i++) {
            Check.due("mark " + i, x.mark(0, 0, i % 7, i % 5), i);
        }
        Check.due("mark 401", x.mark(0, 0, 0, 1), -1);
        Check.due("count(4)", x.count(4), 400);
        Check.due("marked, the last of 400", x.marked(0, 0, 400 % 7, 0), 0);
        Check.due("marked, the 399th", x.marked(0, 0, 399 % 7, 0), 4);
    }

    private static void box() {
        StallBook x = new StallBook();
        Check.due("box(0, -1)", x.box(0, -1), false);
        Check.due("box(0, 100001)", x.box(0, 100001), false);
        for (int day : WRONG_DAYS) {
            Check.due("box(" + day + ", 1)", x.box(day, 1), false);
        }
        Check.due("box(0, 0)", x.box(0, 0), true);
        Check.due("told already, if 0", x.box(0, 5), false);
        Check.due("box(399, 100000)", x.box(399, 100000), true);
        Check.due("box(2, 3)", x.box(2, 3), true);
        Check.due("told already", x.box(2, 3), false);
        x.night();
        Check.due("a DAY that is over", x.box(0, 1), false);
        Check.due("NOW", x.box(1, 10), true);
        Check.nights(x, 2);
        Check.due("the FABRIC's", x.count(7), 13);
        Check.nights(x, 397);
        Check.due("the FABRIC's at the end", x.count(7), 100013);
        Check.due("at the end", x.box(399, 1), false);
    }

    private static void night() {
        StallBook x = Check.withCanons(3);
        x.stall(100);
        x.takes(2, 0);
        x.mark(0, 0, 0, 1);
        x.mark(1, 0, 0, 2);
        x.box(0, 100);
        x.box(1, 40);
        Check.due("night", x.night(), 1);
        Check.due("about(0, 2)", x.about(0, 2), 67);
        Check.due("about(1, 2)", x.about(1, 2), 33);
        Check.due("about(2, 2)", x.about(2, 2), 0);
        Check.due("about(2, 3)", x.about(2, 3), 100);
        Check.due("the FABRIC's", x.count(7), 0);
        Check.due("night", x.night(), 2);
        Check.due("the FABRIC's without POINTS", x.count(7), 40);
        Check.due("about(2, 3)", x.about(2, 3), 200);
        Check.nights(x, 397);
        Check.due("the last night", x.night(), 400);
        Check.due("at the end", x.night(), -1);
        Check.due("count(0)", x.count(0), 400);
        Check.due("nothing happens", x.about(2, 3), 40000);
    }

    private static void marked() {
        StallBook x = Check.withCanons(2);
        x.mark(0, 0, 3, 1);
        x.mark(0, 0, 3, 2);
        x.night();
        x.mark(0, 0, 3, 4);
        x.mark(0, 1, 3, 3);
        Check.due("the last told", x.marked(0, 0, 3, 0), 2);
        Check.due("put right", x.marked(0, 0, 3, 1), 4);
        Check.due("as KNOWN later", x.marked(0, 0, 3, 399), 4);
        Check.due("not KNOWN yet", x.marked(0, 1, 3, 0), 0);
        Check.due("KNOWN", x.marked(0, 1, 3, 1), 3);
        Check.due("another HOUR", x.marked(0, 0, 2, 1), 0);
        Check.due("another CANON", x.marked(1, 0, 3, 1), 0);
        Check.due("a DAY to come", x.marked(0, 399, 0, 0), 0);
        Check.due("no CANON", x.marked(2, 0, 3, 0), -1);
        Check.due("CANON -1", x.marked(-1, 0, 3, 0), -1);
        Check.due("HOUR 7", x.marked(0, 0, 7, 0), -1);
        Check.due("HOUR -1", x.marked(0, 0, -1, 0), -1);
        for (int day : WRONG_DAYS) {
            Check.due("marked of " + day, x.marked(0, day, 3, 0), -1);
            Check.due("marked as KNOWN on " + day, x.marked(0, 0, 3, day), -1);
        }
    }

    private static void points() {
        StallBook x = Check.withCanons(2);
        int[] kinds = {1, 2, 3, 4, 0, 1};
        for (int hour = 0; hour < kinds.length; hour++) {
            x.mark(0, 0, hour, kinds[hour]);
        }
        Check.due("2 + 1 + 2 + 1 + 0 + 2", x.points(0, 0, 0), 8);
        Check.due("without MARKS", x.points(1, 0, 0), 0);
        x.night();
        x.mark(0, 0, 0, 0);
        Check.due("as KNOWN on 0", x.points(0, 0, 0), 8);
        Check.due("as KNOWN on 1", x.points(0, 0, 1), 6);
        Check.due("no CANON", x.points(2, 0, 0), -1);
        Check.due("CANON -1", x.points(-1, 0, 0), -1);
        for (int day : WRONG_DAYS) {
            Check.due("points of " + day, x.points(0, day, 0), -1);
            Check.due("points as KNOWN on " + day, x.points(0, 0, day), -1);
        }
    }

    private static void pointsByActs() {
        StallBook x = Check.withCanons(1);
        for (int hour = 0; hour < 7; hour++) {
            x.mark(0, 0, hour, hour % 5);
        }
        Check.act(x, "choir 9;late 3;ill 0;business 5;hour 1 4;hour 2 2;hour 6 9", 0, 0);
        Check.due("4*9 + 2*3 + 0 + 5 + 0 + 9*9", x.points(0, 0, 0), 36 + 6 + 0 + 5 + 0 + 81);
        x.night();
        x.undo(0);
        Check.due("as KNOWN on 0", x.points(0, 0, 0), 128);
        Check.due("UNDONE", x.points(0, 0, 1), 2 + 1 + 2 + 1 + 2);
        Check.act(x, "hour 1 0", 0, 1);
        Check.due("another one", x.points(0, 0, 1), 1 + 2 + 1 + 2);
    }

    private static void share() {
        StallBook x = Check.withCanons(3);
        x.box(0, 100);
        Check.due("without POINTS", x.share(0, 0, 0), 0);
        x.mark(0, 0, 0, 2);
        x.mark(2, 0, 0, 1);
        x.leaves(2);
        Check.due("share(0)", x.share(0, 0, 0), 34);
        Check.due("share(1)", x.share(1, 0, 0), 0);
        Check.due("share of one who left", x.share(2, 0, 0), 66);
        x.night();
        x.mark(1, 0, 0, 2);
        Check.due("as KNOWN on 0", x.share(0, 0, 0), 34);
        Check.due("as KNOWN on 1", x.share(0, 0, 1), 25);
        Check.due("as KNOWN on 1", x.share(1, 0, 1), 25);
        Check.due("as KNOWN on 399", x.share(2, 0, 399), 50);
        Check.due("a DAY without a BOX", x.share(0, 1, 1), 0);
        Check.due("no CANON", x.share(3, 0, 0), -1);
        Check.due("CANON -1", x.share(-1, 0, 0), -1);
        for (int day : WRONG_DAYS) {
            Check.due("share of " + day, x.share(0, day, 0), -1);
            Check.due("share as KNOWN on " + day, x.share(0, 0, day), -1);
        }
    }

    private static void shareRest() {
        StallBook x = Check.withCanons(5);
        x.box(0, 11);
        x.mark(1, 0, 0, 1);
        x.mark(2, 0, 0, 0);
        x.mark(3, 0, 0, 1);
        x.mark(4, 0, 0, 1);
        int[] want = {0, 4, 0, 4, 3};
        for (int canon = 0; canon < 5; canon++) {
            Check.due("share(" + canon + ") of 11", x.share(canon, 0, 0), want[canon]);
        }
    }

    private static void shareOfMost() {
        StallBook x = Check.withCanons(1);
        Check.act(x, "choir 9;hour 0 9;hour 1 9;hour 2 9;hour 3 9;hour 4 9;hour 5 9;hour 6 9", 0, 0);
        x.box(0, 100000);
        for (int canon = 0; canon < 20; canon++) {
            x.canon();
            for (int hour = 0; hour < 7; hour++) {
                x.mark(canon, 0, hour, 1);
            }
        }
        Check.due("points at most", x.points(19, 0, 0), 567);
        Check.due("share", x.share(19, 0, 0), 5000);
    }

    private static void paid() {
        StallBook x = Check.withCanons(2);
        x.box(0, 10);
        x.mark(0, 0, 0, 1);
        Check.due("NOW is not over", x.paid(0, 0), -1);
        x.night();
        Check.due("paid(0, 0)", x.paid(0, 0), 10);
        Check.due("paid(1, 0)", x.paid(1, 0), 0);
        x.mark(1, 0, 0, 1);
        Check.act(x, "quorum 0", 0, 0);
        Check.due("as it was PAID", x.paid(0, 0), 10);
        Check.due("as it was PAID", x.paid(1, 0), 0);
        x.canon();
        Check.due("who came later", x.paid(2, 0), 0);
        Check.due("paid(0, 1)", x.paid(0, 1), -1);
        Check.due("paid(3, 0)", x.paid(3, 0), -1);
        Check.due("paid(-1, 0)", x.paid(-1, 0), -1);
        for (int day : WRONG_DAYS) {
            Check.due("paid of " + day, x.paid(0, day), -1);
        }
        Check.nights(x, 399);
        Check.due("at the end", x.paid(0, 399), 0);
        Check.due("DAY 400", x.paid(0, 400), -1);
    }

    private static void back() {
        StallBook x = Check.withCanons(2);
        x.box(0, 10);
        x.box(1, 30);
        x.box(2, 100);
        x.mark(0, 0, 0, 1);
        Check.due("nothing is over", x.back(0), 0);
        x.night();
        Check.due("as PAID", x.back(0), 0);
        x.mark(1, 0, 0, 1);
        x.mark(0, 1, 0, 1);
        Check.due("back(0)", x.back(0), -5);
        Check.due("back(1)", x.back(1), 5);
        x.night();
        x.mark(0, 1, 0, 0);
        x.mark(1, 1, 0, 2);
        x.mark(0, 2, 0, 1);
        Check.due("back(0), two DAYS", x.back(0), -35);
        Check.due("back(1), two DAYS", x.back(1), 35);
        Check.due("without him", x.back(2), 0);
        Check.due("back(-1)", x.back(-1), 0);
    }

    private static void backByActs() {
        StallBook x = Check.withCanons(2);
        x.box(0, 90);
        x.mark(0, 0, 0, 1);
        x.mark(1, 0, 0, 2);
        x.night();
        x.leaves(1);
        Check.act(x, "choir 1", 0, 0);
        Check.due("back(0) by the ACT", x.back(0), -15);
        Check.due("back(1) by the ACT", x.back(1), 15);
        x.night();
        x.undo(0);
        Check.due("back(0), UNDONE", x.back(0), 0);
    }

    private static void backOfOneCoin() {
        StallBook x = Check.withCanons(2);
        x.box(0, 1);
        x.mark(1, 0, 6, 1);
        Check.due("share of one coin", x.share(1, 0, 0), 1);
        x.night();
        x.mark(0, 0, 0, 2);
        Check.due("back(0)", x.back(0), 1);
        Check.due("back(1)", x.back(1), -1);
    }

    private static void theEnd() {
        StallBook x = Check.withCanons(1);
        Check.act(x, "choir 1", 0, 0);
        x.canon();
        Check.nights(x, 399);
        x.mark(0, 399, 0, 1);
        x.mark(1, 399, 0, 2);
        x.mark(1, 0, 0, 1);
        x.box(399, 5);
        Check.due("share on the last DAY", x.share(0, 399, 399), 3);
        Check.due("night", x.night(), 400);
        Check.due("paid", x.paid(0, 399), 3);
        Check.due("paid", x.paid(1, 399), 2);
        Check.due("back at the end", x.back(0), 0);
        Check.due("marked at the end", x.marked(1, 0, 0, 399), 1);
        Check.due("not KNOWN on 398", x.marked(1, 0, 0, 398), 0);
    }
}
