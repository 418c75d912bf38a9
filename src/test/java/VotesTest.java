/** Promises 19 to 24: votes, proxies, CLOSING, ACTS and what is IN FORCE. */
public final class VotesTest {
    public static void main(String[] args) {
        votes();
        gives();
        givesByProxy();
        givesAgain();
        whoLeaves();
        close();
        quorum();
        undo();
        holds();
        holdsOfSeveral();
        vote();
        theEnd();
        Check.finish("VotesTest");
    }

    private static StallBook opened(int canons) {
        StallBook book = Check.withCanons(canons);
        Check.due("open", book.open(), 0);
        return book;
    }

    private static void counts(String when, StallBook book, int yes, int no, int silent) {
        Check.due(when + ": yes", book.vote(0), yes);
        Check.due(when + ": no", book.vote(1), no);
        Check.due(when + ": by nobody", book.vote(2), silent);
    }

    private static void votes() {
        StallBook x = Check.withCanons(3);
        Check.due("none is OPEN", x.votes(0, true), false);
        x.open();
        Check.due("votes(0, true)", x.votes(0, true), true);
        Check.due("votes(1, false)", x.votes(1, false), true);
        counts("two voted", x, 1, 1, 1);
        Check.due("votes(1, true)", x.votes(1, true), true);
        counts("the last one holds", x, 2, 0, 1);
        Check.due("votes(3)", x.votes(3, true), false);
        Check.due("votes(-1)", x.votes(-1, true), false);
        x.leaves(2);
        Check.due("who left", x.votes(2, true), false);
        x.canon();
        Check.due("who came", x.votes(3, false), true);
        counts("one left, one came", x, 2, 1, 0);
    }

    private static void gives() {
        StallBook x = Check.withCanons(4);
        Check.due("none is OPEN", x.gives(0, 1), false);
        x.open();
        Check.due("to himself", x.gives(0, 0), false);
        Check.due("gives(0, 4)", x.gives(0, 4), false);
        Check.due("gives(4, 0)", x.gives(4, 0), false);
        Check.due("gives(-1, 0)", x.gives(-1, 0), false);
        Check.due("gives(0, -1)", x.gives(0, -1), false);
        Check.due("gives(0, 1)", x.gives(0, 1), true);
        counts("to one who has not voted", x, 0, 0, 4);
        Check.due("who was given one gives none", x.gives(1, 2), false);
        Check.due("none to one who gave his", x.gives(2, 0), false);
        x.votes(1, false);
        counts("it counts as that one's does", x, 0, 2, 2);
        x.votes(1, true);
        counts("and goes on to", x, 2, 0, 2);
        Check.due("who gave it votes", x.votes(0, false), true);
        counts("his again", x, 1, 1, 2);
        Check.due("who has none any more gives", x.gives(1, 0), true);
        counts("his own is gone", x, 0, 2, 2);
        x.leaves(3);
        Check.due("to one who left", x.gives(2, 3), false);
        Check.due("of one who left", x.gives(3, 2), false);
    }

    private static void givesByProxy() {
        StallBook x = opened(5);
        Check.due("gives(1, 0)", x.gives(1, 0), true);
        Check.due("gives(2, 0)", x.gives(2, 0), true);
        Check.due("no more than proxy", x.gives(3, 0), false);
        x.leaves(2);
        Check.due("a giver left", x.gives(3, 0), true);
        x.votes(3, true);
        Check.due("a giver voted", x.gives(4, 0), true);
        StallBook none = Check.withCanons(1);
        Check.act(none, "proxy 0", 0, 0);
        none.canon();
        none.open();
        Check.due("proxy 0", none.gives(0, 1), false);
        none.undo(0);
        Check.due("UNDONE", none.gives(0, 1), true);
        StallBook later = Check.withCanons(1);
        Check.act(later, "proxy 0", 1, 0);
        later.canon();
        later.open();
        later.night();
        Check.due("IN FORCE on NOW", later.gives(0, 1), false);
    }

    private static void givesAgain() {
        StallBook x = opened(4);
        x.votes(0, true);
        Check.due("who voted gives", x.gives(0, 1), true);
        counts("it isn't his", x, 0, 0, 4);
        Check.due("to another one", x.gives(0, 2), true);
        Check.due("nothing is left with the first", x.gives(1, 2), true);
        Check.due("to the same one: he is no other", x.gives(0, 2), true);
        x.votes(2, true);
        counts("three yes", x, 3, 0, 1);
    }

    private static void whoLeaves() {
        StallBook x = opened(5);
        x.votes(0, true);
        x.votes(1, true);
        x.votes(2, false);
        x.gives(1, 0);
        counts("before", x, 2, 1, 2);
        x.leaves(0);
        counts("given to him: nobody's", x, 0, 1, 3);
        Check.due("it is not his again", x.gives(3, 1), false);
        Check.due("he may give it to another one", x.gives(1, 2), true);
        counts("given again", x, 0, 2, 2);
        x.leaves(1);
        counts("a giver left", x, 0, 1, 2);
        Check.due("nobody has given him theirs", x.gives(2, 3), true);
        counts("none voted", x, 0, 0, 3);
    }

    private static void close() {
        StallBook x = Check.withCanons(2);
        Check.due("none is OPEN", x.close(0), -1);
        Check.tape(x, "choir 7");
        x.open();
        x.votes(0, true);
        Check.due("close(-1)", x.close(-1), -1);
        Check.due("close(400)", x.close(400), -1);
        Check.due("OPEN still", x.vote(3), 1);
        Check.due("close(399)", x.close(399), 0);
        Check.due("none is OPEN then", x.close(0), -1);
        Check.due("holds(399, 0, 0)", x.holds(399, 0, 0), 7);
        Check.due("holds(398, 0, 0)", x.holds(398, 0, 0), 2);
        x.open();
        Check.due("nobody voted", x.close(0), -2);
        Check.due("CLOSED all the same", x.vote(3), 0);
        Check.due("no ACT", x.count(5), 1);
        x.open();
        x.votes(0, true);
        x.votes(1, false);
        Check.due("yes is no more than no", x.close(0), -2);
        x.open();
        x.votes(0, false);
        x.votes(1, false);
        Check.due("no", x.close(0), -2);
    }

    private static int closedAt(String statutes, int canons, int voters) {
        StallBook x = Check.withCanons(1);
        Check.act(x, statutes, 0, 0);
        for (int canon = 1; canon < canons; canon++) {
            x.canon();
        }
        x.open();
        for (int canon = 0; canon < voters; canon++) {
            x.votes(canon, canon < 3);
        }
        return x.close(0);
    }

    private static void quorum() {
        Check.due("2 of 4 by 50", closedAt("", 4, 2), 1);
        Check.due("2 of 5 by 50", closedAt("", 5, 2), -2);
        Check.due("3 of 5 by 50", closedAt("", 5, 3), 1);
        Check.due("3 of 5 by 60", closedAt("quorum 60", 5, 3), 1);
        Check.due("3 of 5 by 61", closedAt("quorum 61", 5, 3), -2);
        Check.due("no counts too", closedAt("quorum 100", 5, 5), 1);
        Check.due("4 of 5 by 100", closedAt("quorum 100", 5, 4), -2);
        Check.due("1 of 20 by 5", closedAt("quorum 5", 20, 1), 1);
        Check.due("1 of 20 by 6", closedAt("quorum 6", 20, 1), -2);
        Check.due("0 of 3 by 0", closedAt("quorum 0", 3, 0), -2);
        Check.due("3 yes, 3 no", closedAt("quorum 0", 7, 6), -2);
        StallBook x = opened(5);
        x.gives(1, 0);
        x.gives(2, 0);
        x.votes(0, true);
        Check.due("by proxies", x.close(0), 0);
        StallBook left = opened(5);
        left.votes(0, true);
        left.leaves(1);
        left.leaves(2);
        left.leaves(3);
        Check.due("of those there", left.close(0), 0);
    }

    private static void undo() {
        StallBook x = Check.withCanons(1);
        Check.due("none such", x.undo(0), false);
        Check.act(x, "choir 7", 0, 0);
        Check.due("undo(1)", x.undo(1), false);
        Check.due("undo(-1)", x.undo(-1), false);
        x.night();
        Check.due("undo(0)", x.undo(0), true);
        Check.due("UNDONE already", x.undo(0), false);
        Check.due("as KNOWN on 0", x.holds(1, 0, 0), 7);
        Check.due("as KNOWN on 1", x.holds(0, 1, 0), 2);
        Check.due("as KNOWN on 399", x.holds(0, 399, 6), -1);
        Check.due("count(5)", x.count(5), 1);
        Check.act(x, "choir 6", 0, 1);
        Check.due("undo on the DAY it was made", x.undo(1), true);
        Check.due("it never was", x.holds(1, 1, 0), 2);
        Check.act(x, "choir 5", 0, 2);
        Check.nights(x, 399);
        Check.due("at the end", x.undo(2), false);
        Check.due("nothing happens", x.holds(0, 399, 0), 5);
    }

    private static void holds() {
        StallBook x = Check.withCanons(1);
        int[] without = {2, 1, 2, 1, 50, 2, -1, -1, -1, -1, 1, 1, 1, 1, 1, 1, 1, -1};
        for (int what = 0; what < without.length; what++) {
            Check.due("without: holds(0, 0, " + what + ")", x.holds(0, 0, what), without[what]);
        }
        Check.act(x, "choir 9;late 8;ill 7;business 6;quorum 5;proxy 4", 0, 0);
        int[] told = {9, 8, 7, 6, 5, 4, 0, -1, -1, -1, 1, 1, 1, 1, 1, 1, 1, -1};
        for (int what = 0; what < told.length; what++) {
            Check.due("told: holds(399, 399, " + what + ")", x.holds(399, 399, what), told[what]);
        }
        Check.act(x, "hour 6 9;hour 5 8;hour 4 7;hour 3 6;hour 2 5;hour 1 4;hour 0 3", 0, 1);
        for (int hour = 0; hour < 7; hour++) {
            Check.due("hour " + hour, x.holds(0, 0, 10 + hour), 3 + hour);
        }
        for (int day : new int[] {-1, 400, Integer.MIN_VALUE, Integer.MAX_VALUE}) {
            Check.due("holds on " + day, x.holds(day, 0, 0), -1);
            Check.due("holds as KNOWN on " + day, x.holds(0, day, 0), -1);
        }
        for (int what : new int[] {-1, 7, 9, 17, Integer.MIN_VALUE, Integer.MAX_VALUE}) {
            Check.due("holds(0, 0, " + what + ")", x.holds(0, 0, what), -1);
        }
    }

    private static void holdsOfSeveral() {
        StallBook x = Check.withCanons(1);
        Check.act(x, "choir 3", 5, 0);
        Check.act(x, "choir 4", 2, 1);
        x.night();
        Check.act(x, "choir 5", 5, 2);
        Check.act(x, "choir 6", 3, 3);
        Check.due("ahead of all", x.holds(1, 1, 6), -1);
        Check.due("on 2", x.holds(2, 1, 6), 1);
        Check.due("on 3", x.holds(3, 1, 6), 3);
        Check.due("on 5 the last one made", x.holds(5, 1, 6), 2);
        Check.due("the latest DAY", x.holds(399, 1, 6), 2);
        Check.due("as KNOWN on 0, on 4", x.holds(4, 0, 6), 1);
        Check.due("as KNOWN on 0, on 5", x.holds(5, 0, 6), 0);
        x.night();
        x.undo(2);
        Check.due("UNDONE: the one ahead of it", x.holds(5, 2, 6), 0);
        Check.due("UNDONE, as KNOWN on 1", x.holds(5, 1, 6), 2);
    }

    private static void vote() {
        StallBook x = Check.withCanons(3);
        for (int what = 0; what < 4; what++) {
            Check.due("ahead of any: vote(" + what + ")", x.vote(what), -1);
        }
        x.open();
        counts("OPENED", x, 0, 0, 3);
        Check.due("vote(3)", x.vote(3), 1);
        Check.due("vote(4)", x.vote(4), -1);
        Check.due("vote(-1)", x.vote(-1), -1);
        x.votes(0, true);
        x.votes(1, false);
        x.close(0);
        Check.due("vote(3)", x.vote(3), 0);
        x.leaves(0);
        x.canon();
        counts("as it was CLOSED", x, 1, 1, 1);
        x.open();
        counts("the next one", x, 0, 0, 3);
    }

    private static void theEnd() {
        StallBook x = opened(2);
        x.votes(0, true);
        Check.nights(x, 400);
        Check.due("votes at the end", x.votes(1, true), false);
        Check.due("gives at the end", x.gives(1, 0), false);
        Check.due("close at the end", x.close(0), -1);
        counts("at the end", x, 1, 0, 1);
        Check.due("OPEN still", x.vote(3), 1);
    }
}
