import java.util.ArrayList;
import java.util.Arrays;
import java.util.HashMap;
import java.util.HashSet;
import java.util.List;
import java.util.Map;
import java.util.Set;
import java.util.regex.Matcher;
import java.util.regex.Pattern;

/** The document once more, as slow and plain as can be: what was PAID is kept, all else is looked up in lists. */
final class PlainBook {
    private record Mark(int canon, int day, int hour, int mark, int known) { }

    private record Move(int canon, int from, int to) { }

    private static final class Canon {
        boolean there = true;
        Integer stall = null;
        final Set<Integer> wishes = new HashSet<>();
        final Map<Integer, Integer> paid = new HashMap<>();
        int worth = 0;
        Boolean voted = null;
        Integer gave = null;
    }

    private static final class Act {
        Map<String, Integer> rules;
        int from;
        int known;
        Integer undone = null;
    }

    private int now = 0;
    private final List<Integer> worths = new ArrayList<>();
    private final List<Canon> canons = new ArrayList<>();
    private final List<Mark> marks = new ArrayList<>();
    private final List<Act> acts = new ArrayList<>();
    private final Map<Integer, Integer> boxes = new HashMap<>();
    private List<Move> moves = new ArrayList<>();
    private String tape = "";
    private Map<String, Integer> opened = null;
    private int[] closed = null;
    private int fabric = 0;
    private int fault;

    int call(int method, int a, int b, int c, int d, int e) {
        switch (method) {
            case 0: return stall(a);
            case 1: return canon();
            case 2: return wish(a, b, (c & 1) == 1) ? 1 : 0;
            case 3: return takes(a, b) ? 1 : 0;
            case 4: return leaves(a);
            case 5: return moved(a, b);
            case 6: return mark(a, b, c, d);
            case 7: return box(a, b) ? 1 : 0;
            case 8: return night();
            case 9: return asked(a, b, d) && hour(c) ? marked(a, b, c, d) : -1;
            case 10: return asked(a, b, c) ? points(a, b, c) : -1;
            case 11: return asked(a, b, c) ? shares(b, c)[a] : -1;
            case 12: return has(a) && b >= 0 && b < now ? canons.get(a).paid.getOrDefault(b, 0) : -1;
            case 13: return back(a);
            case 14: return feed(a, b, c, d, e);
            case 15: return end(a);
            case 16: return open();
            case 17: return votes(a, (b & 1) == 1) ? 1 : 0;
            case 18: return gives(a, b) ? 1 : 0;
            case 19: return close(a);
            case 20: return undo(a) ? 1 : 0;
            case 21: return holds(a, b, c);
            case 22: return vote(a);
            case 23: return about(a, b);
            default: return count(a);
        }
    }

    int now() {
        return now;
    }

    private boolean over() {
        return now == 400;
    }

    private static boolean day(int day) {
        return day >= 0 && day <= 399;
    }

    private static boolean hour(int hour) {
        return hour >= 0 && hour <= 6;
    }

    private boolean has(int canon) {
        return canon >= 0 && canon < canons.size();
    }

    private boolean there(int canon) {
        return has(canon) && canons.get(canon).there;
    }

    private boolean hasStall(int stall) {
        return stall >= 0 && stall < worths.size();
    }

    private boolean asked(int canon, int day, int known) {
        return has(canon) && day(day) && day(known);
    }

    private int stall(int worth) {
        if (over() || worths.size() == 12 || worth < 0 || worth > 1000) return -1;
        worths.add(worth);
        moves = new ArrayList<>();
        falls(worths.size() - 1);
        return worths.size() - 1;
    }

    private int canon() {
        if (over() || canons.size() == 20) return -1;
        canons.add(new Canon());
        return canons.size() - 1;
    }

    private boolean wish(int canon, int stall, boolean is) {
        if (over() || !has(canon) || !hasStall(stall)) return false;
        Set<Integer> wishes = canons.get(canon).wishes;
        return is ? wishes.add(stall) : wishes.remove(stall);
    }

    private int holder(int stall) {
        for (int c = 0; c < canons.size(); c++) {
            Integer his = canons.get(c).stall;
            if (his != null && his == stall) return c;
        }
        return -1;
    }

    private boolean takes(int canon, int stall) {
        if (over() || !there(canon) || !hasStall(stall)) return false;
        if (canons.get(canon).stall != null || holder(stall) != -1) return false;
        canons.get(canon).stall = stall;
        return true;
    }

    private int leaves(int canon) {
        if (over() || !there(canon)) return -1;
        Canon who = canons.get(canon);
        Integer free = who.stall;
        who.there = false;
        who.stall = null;
        who.voted = null;
        who.gave = null;
        moves = new ArrayList<>();
        if (free != null) falls(free);
        return moves.size();
    }

    private void falls(int stall) {
        for (int c = 0; c < canons.size(); c++) {
            Canon who = canons.get(c);
            int id = c;
            boolean hasMoved = moves.stream().anyMatch(m -> m.canon == id);
            boolean gains = who.stall == null || worths.get(who.stall) < worths.get(stall);
            if (!who.there || !who.wishes.contains(stall) || hasMoved || !gains) continue;
            Integer left = who.stall;
            who.stall = stall;
            moves.add(new Move(c, left == null ? -1 : left, stall));
            if (left != null) falls(left);
            return;
        }
    }

    private int moved(int k, int what) {
        if (k < 0 || k >= moves.size()) return -1;
        Move move = moves.get(k);
        return what == 0 ? move.canon : what == 1 ? move.from : what == 2 ? move.to : -1;
    }

    private int mark(int canon, int day, int hour, int mark) {
        if (over() || marks.size() == 400 || !has(canon) || day < 0 || day > now) return -1;
        if (!hour(hour) || mark < 0 || mark > 4) return -1;
        marks.add(new Mark(canon, day, hour, mark, now));
        return marks.size();
    }

    private boolean box(int day, int coins) {
        if (over() || day < now || day > 399 || coins < 0 || coins > 100000) return false;
        return boxes.putIfAbsent(day, coins) == null;
    }

    private int night() {
        if (over()) return -1;
        int[] shares = shares(now, now);
        int parted = 0;
        for (int c = 0; c < canons.size(); c++) {
            canons.get(c).paid.put(now, shares[c]);
            parted += shares[c];
            Integer stall = canons.get(c).stall;
            canons.get(c).worth += stall == null ? 0 : worths.get(stall);
        }
        fabric += boxes.getOrDefault(now, 0) - parted;
        return ++now;
    }

    private int marked(int canon, int day, int hour, int known) {
        int last = 0;
        for (Mark m : marks) {
            if (m.canon == canon && m.day == day && m.hour == hour && m.known <= known) last = m.mark;
        }
        return last;
    }

    private int points(int canon, int day, int known) {
        Map<String, Integer> rules = rules(inForce(day, known));
        String[] words = {"away", "choir", "late", "ill", "business"};
        int sum = 0;
        for (int h = 0; h < 7; h++) {
            int mark = marked(canon, day, h, known);
            if (mark != 0) sum += rules.get("hour" + h) * rules.get(words[mark]);
        }
        return sum;
    }

    private int[] shares(int day, int known) {
        int[] shares = new int[canons.size()];
        long box = boxes.getOrDefault(day, 0);
        long all = 0;
        for (int c = 0; c < shares.length; c++) all += points(c, day, known);
        if (all == 0) return shares;
        long lacks = box;
        for (int c = 0; c < shares.length; c++) {
            shares[c] = (int) (box * points(c, day, known) / all);
            lacks -= shares[c];
        }
        for (int c = 0; c < shares.length; c++) {
            if (lacks > 0 && points(c, day, known) > 0) {
                shares[c]++;
                lacks--;
            }
        }
        if (lacks != 0) throw new IllegalStateException("coins are left over");
        return shares;
    }

    private int back(int canon) {
        if (!has(canon)) return 0;
        int back = 0;
        for (int d = 0; d < now; d++) {
            if (boxes.containsKey(d)) back += shares(d, now)[canon];
            back -= canons.get(canon).paid.getOrDefault(d, 0);
        }
        return back;
    }

    private int feed(int... words) {
        if (tape.length() > 180) return -1;
        StringBuilder more = new StringBuilder(tape);
        for (int word : words) {
            for (int shift = 24; shift >= 0; shift -= 8) more.append((char) (word >>> shift & 255));
        }
        tape = more.toString();
        return tape.length();
    }

    private int end(int n) {
        if (n < 0 || n > tape.length()) return -1;
        tape = tape.substring(0, n);
        return n;
    }

    private static Map<String, Integer> without() {
        Map<String, Integer> rules = new HashMap<>();
        rules.put("choir", 2);
        rules.put("late", 1);
        rules.put("ill", 2);
        rules.put("business", 1);
        rules.put("quorum", 50);
        rules.put("proxy", 2);
        for (int h = 0; h < 7; h++) rules.put("hour" + h, 1);
        return rules;
    }

    /** The pieces of the text with their places, and an empty one at its end; then a walk along them. */
    private Map<String, Integer> parse(String text) {
        List<String> pieces = new ArrayList<>();
        List<Integer> places = new ArrayList<>();
        Matcher matcher = Pattern.compile("[a-z]+|[0-9]+|[^ ]", Pattern.DOTALL).matcher(text);
        while (matcher.find()) {
            pieces.add(matcher.group());
            places.add(matcher.start());
        }
        pieces.add("");
        places.add(text.length());
        fault = 0;
        Map<String, Integer> rules = without();
        Set<String> told = new HashSet<>();
        int at = 0;
        while (pieces.size() > 1) {
            String name = pieces.get(at);
            if (!Arrays.asList("choir", "late", "ill", "business", "quorum", "proxy", "hour").contains(name)) {
                return faulty(places.get(at), 0);
            }
            if (name.equals("hour")) {
                at++;
                int kind = number(pieces.get(at), 6);
                if (kind >= 0) return faulty(places.get(at), kind);
                name += Integer.parseInt(pieces.get(at));
            }
            if (!told.add(name)) return faulty(places.get(at), 2);
            at++;
            int kind = number(pieces.get(at), name.equals("quorum") ? 100 : 9);
            if (kind >= 0) return faulty(places.get(at), kind);
            rules.put(name, Integer.parseInt(pieces.get(at)));
            at++;
            if (pieces.get(at).isEmpty()) break;
            if (!pieces.get(at).equals(";")) return faulty(places.get(at), 0);
            at++;
        }
        return rules;
    }

    /** The kind of FAULT of a piece that should be a NUMBER, or -1. */
    private static int number(String piece, int most) {
        if (!piece.matches("[0-9]+")) return 0;
        return piece.length() > 3 || Integer.parseInt(piece) > most ? 1 : -1;
    }

    private Map<String, Integer> faulty(int place, int kind) {
        fault = 1 + 8 * place + kind;
        return null;
    }

    private int open() {
        if (over() || opened != null || acts.size() == 10) return -1;
        opened = parse(tape);
        tape = "";
        if (opened == null) return -2 - fault;
        for (Canon who : canons) {
            who.voted = null;
            who.gave = null;
        }
        return 0;
    }

    private boolean votes(int canon, boolean yes) {
        if (over() || opened == null || !there(canon)) return false;
        canons.get(canon).voted = yes;
        canons.get(canon).gave = null;
        return true;
    }

    private boolean gives(int canon, int to) {
        if (over() || opened == null || !there(canon) || !there(to) || canon == to) return false;
        if (canons.get(to).gave != null) return false;
        int others = 0;
        for (int c = 0; c < canons.size(); c++) {
            Integer gave = canons.get(c).gave;
            if (gave != null && gave == canon) return false;
            if (gave != null && gave == to && c != canon) others++;
        }
        if (others >= rules(inForce(now, now)).get("proxy")) return false;
        canons.get(canon).gave = to;
        canons.get(canon).voted = null;
        return true;
    }

    private int[] tally() {
        int[] tally = new int[3];
        for (Canon who : canons) {
            if (!who.there) continue;
            Canon by = who.gave == null ? who : canons.get(who.gave);
            tally[!by.there || by.voted == null ? 2 : by.voted ? 0 : 1]++;
        }
        return tally;
    }

    private int present() {
        return (int) canons.stream().filter(c -> c.there).count();
    }

    private int close(int from) {
        if (over() || opened == null || !day(from)) return -1;
        closed = tally();
        Map<String, Integer> draft = opened;
        opened = null;
        int quorum = rules(inForce(now, now)).get("quorum");
        if (100 * (closed[0] + closed[1]) < quorum * present() || closed[0] <= closed[1]) return -2;
        Act act = new Act();
        act.rules = draft;
        act.from = from;
        act.known = now;
        acts.add(act);
        return acts.size() - 1;
    }

    private boolean undo(int act) {
        if (over() || act < 0 || act >= acts.size() || acts.get(act).undone != null) return false;
        acts.get(act).undone = now;
        return true;
    }

    private int inForce(int day, int known) {
        for (int from = day; from >= 0; from--) {
            for (int a = acts.size() - 1; a >= 0; a--) {
                Act act = acts.get(a);
                boolean was = act.undone == null || act.undone > known;
                if (act.from == from && act.known <= known && was) return a;
            }
        }
        return -1;
    }

    private Map<String, Integer> rules(int act) {
        return act == -1 ? without() : acts.get(act).rules;
    }

    private int holds(int day, int known, int what) {
        if (!day(day) || !day(known)) return -1;
        int act = inForce(day, known);
        if (what == 6) return act;
        String[] words = {"choir", "late", "ill", "business", "quorum", "proxy"};
        if (what >= 0 && what < 6) return rules(act).get(words[what]);
        return rules(act).getOrDefault("hour" + (what - 10L), -1);
    }

    private int vote(int what) {
        if (opened == null && closed == null) return -1;
        if (what == 3) return opened != null ? 1 : 0;
        return what >= 0 && what < 3 ? (opened != null ? tally() : closed)[what] : -1;
    }

    private int about(int canon, int what) {
        if (!has(canon)) return -1;
        Canon who = canons.get(canon);
        if (what == 0) return who.there ? 1 : 0;
        if (what == 1) return who.stall == null ? -1 : who.stall;
        if (what == 2) return who.paid.values().stream().mapToInt(i -> i).sum();
        return what == 3 ? who.worth : -1;
    }

    private int count(int what) {
        int[] counts = {now, worths.size(), canons.size(), present(), marks.size(), acts.size(), tape.length(), fabric};
        if (what >= 0 && what < counts.length) return counts[what];
        return what >= 20 && hasStall(what - 20) ? holder(what - 20) : -1;
    }
}
