import java.util.List;

/** The calls of the document's face, by number and by name; a boolean counts 1 or 0. */
final class Calls {
    /** How many calls an object is used for at most. */
    static final int MOST = 512;

    static final List<String> NAMES = List.of("stall", "canon", "wish", "takes", "leaves", "moved", "mark", "box",
        "night", "marked", "points", "share", "paid", "back", "feed", "end", "open", "votes", "gives", "close",
        "undo", "holds", "vote", "about", "count");
    private static final int[] PARAMETERS = {1, 0, 3, 2, 1, 2, 4, 2, 0, 4, 3, 3, 2, 1, 5, 1, 0, 2, 2, 1, 1, 3, 1, 2, 1};
    private static final List<String> TRUE_OR_FALSE = List.of("wish", "takes", "box", "votes", "gives", "undo");
    private static final List<String> ASKING = List.of("moved", "marked", "points", "share", "paid", "back", "holds",
        "vote", "about", "count");

    private Calls() {
    }

    /** A call with its arguments; those that it doesn't take are 0. */
    record Call(int method, int a, int b, int c, int d, int e) {
        static Call of(String name, int... given) {
            int method = NAMES.indexOf(name);
            if (method < 0 || given.length != PARAMETERS[method]) {
                throw new IllegalArgumentException("no call " + name + " of " + given.length);
            }
            int[] all = new int[5];
            System.arraycopy(given, 0, all, 0, given.length);
            return new Call(method, all[0], all[1], all[2], all[3], all[4]);
        }

        int on(StallBook book) {
            return answer(book, method, a, b, c, d, e);
        }

        boolean isTrueOrFalse() {
            return TRUE_OR_FALSE.contains(NAMES.get(method));
        }

        /** Whether the call only asks, and so never changes the book. */
        boolean asks() {
            return ASKING.contains(NAMES.get(method));
        }

        /** Whether this answer says that the call was refused. */
        boolean isRefused(int answer) {
            return answer == (isTrueOrFalse() ? 0 : StallBook.NONE);
        }

        String told() {
            int[] all = {a, b, c, d, e};
            StringBuilder text = new StringBuilder(NAMES.get(method)).append('(');
            for (int i = 0; i < PARAMETERS[method]; i++) {
                text.append(i == 0 ? "" : ", ").append(all[i]);
            }
            return text.append(')').toString();
        }
    }

    static int answer(StallBook book, int method, int a, int b, int c, int d, int e) {
        switch (method) {
            case 0: return book.stall(a);
            case 1: return book.canon();
            case 2: return book.wish(a, b, (c & 1) == 1) ? 1 : 0;
            case 3: return book.takes(a, b) ? 1 : 0;
            case 4: return book.leaves(a);
            case 5: return book.moved(a, b);
            case 6: return book.mark(a, b, c, d);
            case 7: return book.box(a, b) ? 1 : 0;
            case 8: return book.night();
            case 9: return book.marked(a, b, c, d);
            case 10: return book.points(a, b, c);
            case 11: return book.share(a, b, c);
            case 12: return book.paid(a, b);
            case 13: return book.back(a);
            case 14: return book.feed(a, b, c, d, e);
            case 15: return book.end(a);
            case 16: return book.open();
            case 17: return book.votes(a, (b & 1) == 1) ? 1 : 0;
            case 18: return book.gives(a, b) ? 1 : 0;
            case 19: return book.close(a);
            case 20: return book.undo(a) ? 1 : 0;
            case 21: return book.holds(a, b, c);
            case 22: return book.vote(a);
            case 23: return book.about(a, b);
            case 24: return book.count(a);
            default: throw new IllegalArgumentException("no call " + method);
        }
    }
}
