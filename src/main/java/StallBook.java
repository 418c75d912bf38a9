import java.util.Arrays;

/**
 * The book of a chapter: canons, stalls, marks, the nightly box, statutes and votes.
 * The words in capitals in the comments are those of the document.
 */
public final class StallBook {
    public static final int NONE = -1;

    private static final int DAYS = 400;
    private static final int HOURS = 7;
    private static final int STALLS = 12;
    private static final int CANONS = 20;
    private static final int MARKS = 400;
    private static final int ACTS = 10;
    private static final int TAPE_BYTES = 200;
    private static final int FED_BYTES = 20;
    private static final int MOST_WORTH = 1000;
    private static final int MOST_COINS = 100000;
    private static final int HIGHEST_MARK = 4;

    private static final int NOT_PASSED = -2;

    /* A row of statutes: choir, late, ill, business, quorum, proxy, then a number for each HOUR. */
    private static final int QUORUM = 4;
    private static final int PROXY = 5;
    private static final int FIRST_HOUR = 6;
    private static final int SLOTS = 13;
    private static final int[] WITHOUT = {2, 1, 2, 1, 50, 2, 1, 1, 1, 1, 1, 1, 1};
    private static final int[] HIGHEST = {9, 9, 9, 9, 100, 9, 9, 9, 9, 9, 9, 9, 9};

    private final Chapter chapter = new Chapter();
    private final Acts acts = new Acts();
    private final Choir choir = new Choir();
    private final Purse purse = new Purse(choir, acts);
    private final Tape tape = new Tape();
    private final Reader reader = new Reader(tape);
    private final Ballot ballot = new Ballot(chapter);
    private int now = 0;

    public StallBook() {
    }

    public int stall(int worth) {
        if (isOver() || worth < 0 || worth > MOST_WORTH) {
            return NONE;
        }
        return chapter.addStall(worth);
    }

    public int canon() {
        return isOver() ? NONE : chapter.addCanon();
    }

    public boolean wish(int canon, int stall, boolean is) {
        if (isOver() || !chapter.hasCanon(canon) || !chapter.hasStall(stall)) {
            return false;
        }
        return chapter.setWish(canon, stall, is);
    }

    public boolean takes(int canon, int stall) {
        if (isOver() || !chapter.isThere(canon) || !chapter.hasStall(stall)) {
            return false;
        }
        return chapter.sitDown(canon, stall);
    }

    public int leaves(int canon) {
        if (isOver() || !chapter.isThere(canon)) {
            return NONE;
        }
        ballot.forget(canon);
        return chapter.depart(canon);
    }

    public int moved(int k, int what) {
        return chapter.tellMove(k, what);
    }

    public int mark(int canon, int day, int hour, int mark) {
        if (isOver() || !chapter.hasCanon(canon) || day < 0 || day > now) {
            return NONE;
        }
        if (!isHour(hour) || mark < 0 || mark > HIGHEST_MARK) {
            return NONE;
        }
        return choir.addMark(canon, day, hour, mark, now);
    }

    public boolean box(int day, int coins) {
        if (!isDay(day) || day < now || coins < 0 || coins > MOST_COINS) {
            return false;
        }
        return purse.fill(day, coins);
    }

    public int night() {
        if (isOver()) {
            return NONE;
        }
        purse.payShares(now);
        purse.payWorth(chapter);
        now++;
        return now;
    }

    public int marked(int canon, int day, int hour, int known) {
        if (!isAsked(canon, day, known) || !isHour(hour)) {
            return NONE;
        }
        return choir.lastMark(canon, day, hour, known);
    }

    public int points(int canon, int day, int known) {
        return isAsked(canon, day, known) ? purse.pointsOf(canon, day, known) : NONE;
    }

    public int share(int canon, int day, int known) {
        return isAsked(canon, day, known) ? purse.shareOf(canon, day, known) : NONE;
    }

    public int paid(int canon, int day) {
        if (!chapter.hasCanon(canon) || !isDay(day) || day >= now) {
            return NONE;
        }
        return purse.paidShareOf(canon, day);
    }

    public int back(int canon) {
        return chapter.hasCanon(canon) ? purse.owedTo(canon, now) : 0;
    }

    public int feed(int a, int b, int c, int d, int e) {
        if (!tape.hasRoom(FED_BYTES)) {
            return NONE;
        }
        tape.append(a);
        tape.append(b);
        tape.append(c);
        tape.append(d);
        tape.append(e);
        return tape.length;
    }

    public int end(int n) {
        return tape.cutTo(n) ? n : NONE;
    }

    public int open() {
        if (isOver() || ballot.isOpen || acts.made == ACTS) {
            return NONE;
        }
        int fault = reader.read();
        tape.cutTo(0);
        if (fault != 0) {
            return -2 - fault;
        }
        ballot.begin();
        return 0;
    }

    public boolean votes(int canon, boolean yes) {
        if (isOver() || !ballot.isOpen || !chapter.isThere(canon)) {
            return false;
        }
        ballot.cast(canon, yes);
        return true;
    }

    public boolean gives(int canon, int to) {
        if (isOver() || !ballot.isOpen) {
            return false;
        }
        return ballot.handOver(canon, to, inForceNow(PROXY));
    }

    public int close(int from) {
        if (isOver() || !ballot.isOpen || !isDay(from)) {
            return NONE;
        }
        boolean passed = ballot.finish(inForceNow(QUORUM));
        return passed ? acts.make(reader.draft, from, now) : NOT_PASSED;
    }

    public boolean undo(int act) {
        return !isOver() && acts.strike(act, now);
    }

    public int holds(int day, int known, int what) {
        if (!isDay(day) || !isDay(known)) {
            return NONE;
        }
        int act = acts.inForce(day, known);
        if (what >= 0 && what <= PROXY) {
            return acts.number(act, what);
        }
        if (what >= 10 && what < 10 + HOURS) {
            return acts.number(act, FIRST_HOUR + what - 10);
        }
        return what == 6 ? act : NONE;
    }

    public int vote(int what) {
        return ballot.tell(what);
    }

    public int about(int canon, int what) {
        if (!chapter.hasCanon(canon)) {
            return NONE;
        }
        switch (what) {
            case 0:
                return chapter.isThere(canon) ? 1 : 0;
            case 1:
                return chapter.stallOf[canon];
            case 2:
                return purse.paidShares[canon];
            case 3:
                return purse.paidWorth[canon];
            default:
                return NONE;
        }
    }

    public int count(int what) {
        switch (what) {
            case 0:
                return now;
            case 1:
                return chapter.stalls;
            case 2:
                return chapter.canons;
            case 3:
                return chapter.present;
            case 4:
                return choir.told;
            case 5:
                return acts.made;
            case 6:
                return tape.length;
            case 7:
                return purse.fabric;
            default:
                return what >= 20 ? chapter.holderOf(what - 20) : NONE;
        }
    }

    private boolean isOver() {
        return now >= DAYS;
    }

    private boolean isAsked(int canon, int day, int known) {
        return chapter.hasCanon(canon) && isDay(day) && isDay(known);
    }

    private int inForceNow(int slot) {
        return acts.number(acts.inForce(now, now), slot);
    }

    private static boolean isDay(int day) {
        return day >= 0 && day < DAYS;
    }

    private static boolean isHour(int hour) {
        return hour >= 0 && hour < HOURS;
    }

    /** CANONS, STALLS, who sits where, WISHES, and the MOVES of the latest FALL. */
    private static final class Chapter {
        private int canons = 0;
        private int present = 0;
        private int stalls = 0;
        private final boolean[] there = new boolean[CANONS];
        private final int[] stallOf = new int[CANONS];
        private final int[] worth = new int[STALLS];
        private final int[] holder = new int[STALLS];
        private final boolean[] wishes = new boolean[CANONS * STALLS];
        private int moves = 0;
        private final int[] mover = new int[STALLS];
        private final int[] movedFrom = new int[STALLS];
        private final int[] movedTo = new int[STALLS];

        private boolean hasCanon(int canon) {
            return canon >= 0 && canon < canons;
        }

        private boolean isThere(int canon) {
            return hasCanon(canon) && there[canon];
        }

        private boolean hasStall(int stall) {
            return stall >= 0 && stall < stalls;
        }

        private int holderOf(int stall) {
            return hasStall(stall) ? holder[stall] : NONE;
        }

        private int worthOf(int canon) {
            int stall = stallOf[canon];
            return stall == NONE ? 0 : worth[stall];
        }

        private int addStall(int itsWorth) {
            if (stalls == STALLS) {
                return NONE;
            }
            int stall = stalls;
            stalls++;
            worth[stall] = itsWorth;
            holder[stall] = NONE;
            fall(stall);
            return stall;
        }

        private int addCanon() {
            if (canons == CANONS) {
                return NONE;
            }
            int canon = canons;
            canons++;
            present++;
            there[canon] = true;
            stallOf[canon] = NONE;
            return canon;
        }

        private boolean setWish(int canon, int stall, boolean is) {
            int at = canon * STALLS + stall;
            boolean changed = wishes[at] != is;
            wishes[at] = is;
            return changed;
        }

        private boolean sitDown(int canon, int stall) {
            if (stallOf[canon] != NONE || holder[stall] != NONE) {
                return false;
            }
            stallOf[canon] = stall;
            holder[stall] = canon;
            return true;
        }

        private int depart(int canon) {
            int stall = stallOf[canon];
            there[canon] = false;
            present--;
            stallOf[canon] = NONE;
            if (stall != NONE) {
                holder[stall] = NONE;
            }
            fall(stall);
            return moves;
        }

        /**
         * Each MOVE frees a STALL worth less than the one it fills, so nobody who
         * moved could move again, and there are never more MOVES than STALLS.
         * With NONE (who left had no STALL) the FALL has no MOVES.
         */
        private void fall(int stall) {
            moves = 0;
            int free = stall;
            for (int step = 0; step < STALLS && free != NONE; step++) {
                int next = firstOptant(free);
                free = next == NONE ? NONE : moveTo(next, free);
            }
        }

        private int firstOptant(int stall) {
            for (int canon = 0; canon < canons; canon++) {
                if (there[canon] && wishes[canon * STALLS + stall] && gainsBy(canon, stall)) {
                    return canon;
                }
            }
            return NONE;
        }

        private boolean gainsBy(int canon, int stall) {
            return stallOf[canon] == NONE || worthOf(canon) < worth[stall];
        }

        /** Answers the STALL that falls free by this MOVE, or NONE. */
        private int moveTo(int canon, int stall) {
            int left = stallOf[canon];
            mover[moves] = canon;
            movedFrom[moves] = left;
            movedTo[moves] = stall;
            moves++;
            stallOf[canon] = stall;
            holder[stall] = canon;
            if (left != NONE) {
                holder[left] = NONE;
            }
            return left;
        }

        private int tellMove(int k, int what) {
            if (k < 0 || k >= moves) {
                return NONE;
            }
            switch (what) {
                case 0:
                    return mover[k];
                case 1:
                    return movedFrom[k];
                case 2:
                    return movedTo[k];
                default:
                    return NONE;
            }
        }
    }

    /** The MARKS, chained by DAY from the newest to the oldest. */
    private static final class Choir {
        private int told = 0;
        private final int[] newest = new int[DAYS];
        private final int[] older = new int[MARKS];
        private final int[] whose = new int[MARKS];
        private final int[] hourOf = new int[MARKS];
        private final int[] kind = new int[MARKS];
        private final int[] knownFrom = new int[MARKS];
        private final int[] tally = new int[CANONS];
        private final int[] hoursSeen = new int[CANONS];

        private Choir() {
            Arrays.fill(newest, NONE);
        }

        private int addMark(int canon, int day, int hour, int mark, int now) {
            if (told == MARKS) {
                return NONE;
            }
            whose[told] = canon;
            hourOf[told] = hour;
            kind[told] = mark;
            knownFrom[told] = now;
            older[told] = newest[day];
            newest[day] = told;
            told++;
            return told;
        }

        private boolean hasMarks(int day) {
            return newest[day] != NONE;
        }

        private int lastMark(int canon, int day, int hour, int known) {
            int at = newest[day];
            for (int step = 0; step < MARKS && at != NONE; step++) {
                if (whose[at] == canon && hourOf[at] == hour && knownFrom[at] <= known) {
                    return kind[at];
                }
                at = older[at];
            }
            return 0;
        }

        /** Fills the tally with the POINTS of every CANON and answers them all together. */
        private int tallyUp(int day, int known, Acts acts) {
            Arrays.fill(tally, 0);
            Arrays.fill(hoursSeen, 0);
            int act = acts.inForce(day, known);
            int all = 0;
            int at = newest[day];
            for (int step = 0; step < MARKS && at != NONE; step++) {
                if (knownFrom[at] <= known && isFirstSeen(at)) {
                    int gained = acts.pointsFor(act, hourOf[at], kind[at]);
                    tally[whose[at]] += gained;
                    all += gained;
                }
                at = older[at];
            }
            return all;
        }

        /** Newest first: a MARK met later of the same CANON and HOUR has been put right. */
        private boolean isFirstSeen(int at) {
            int bit = 1 << hourOf[at];
            int canon = whose[at];
            boolean isFirst = (hoursSeen[canon] & bit) == 0;
            hoursSeen[canon] |= bit;
            return isFirst;
        }
    }

    /** The ACTS. Row 0 of the rules is what holds without one, row n + 1 is ACT n. */
    private static final class Acts {
        private int made = 0;
        private final int[] rules = new int[(ACTS + 1) * SLOTS];
        private final int[] from = new int[ACTS];
        private final int[] knownFrom = new int[ACTS];
        private final int[] undoneFrom = new int[ACTS];

        private Acts() {
            System.arraycopy(WITHOUT, 0, rules, 0, SLOTS);
            /* DAYS is behind every DAY: not UNDONE as KNOWN on any. */
            Arrays.fill(undoneFrom, DAYS);
        }

        private int make(int[] draft, int day, int now) {
            if (made == ACTS) {
                return NONE;
            }
            int act = made;
            made++;
            System.arraycopy(draft, 0, rules, (act + 1) * SLOTS, SLOTS);
            from[act] = day;
            knownFrom[act] = now;
            return act;
        }

        private boolean strike(int act, int now) {
            if (act < 0 || act >= made || undoneFrom[act] != DAYS) {
                return false;
            }
            undoneFrom[act] = now;
            return true;
        }

        /** The ACT IN FORCE, or NONE. */
        private int inForce(int day, int known) {
            int best = NONE;
            for (int act = 0; act < made; act++) {
                boolean isKnown = knownFrom[act] <= known && !isUndone(act, known);
                if (isKnown && from[act] <= day && (best == NONE || from[act] >= from[best])) {
                    best = act;
                }
            }
            return best;
        }

        private boolean isUndone(int act, int known) {
            return undoneFrom[act] != DAYS && undoneFrom[act] <= known;
        }

        private int number(int act, int slot) {
            return rules[(act + 1) * SLOTS + slot];
        }

        private int pointsFor(int act, int hour, int mark) {
            return mark == 0 ? 0 : number(act, FIRST_HOUR + hour) * number(act, mark - 1);
        }
    }

    /** The BOXES and what was PAID of them. */
    private static final class Purse {
        private final Choir choir;
        private final Acts acts;
        private final int[] coins = new int[DAYS];
        private final int[] parts = new int[CANONS];
        private final int[] paidShares = new int[CANONS];
        private final int[] paidWorth = new int[CANONS];
        private int fabric = 0;

        private Purse(Choir itsChoir, Acts itsActs) {
            choir = itsChoir;
            acts = itsActs;
            Arrays.fill(coins, NONE);
        }

        private boolean fill(int day, int put) {
            if (coins[day] != NONE) {
                return false;
            }
            coins[day] = put;
            return true;
        }

        private int pointsOf(int canon, int day, int known) {
            choir.tallyUp(day, known, acts);
            return choir.tally[canon];
        }

        private int shareOf(int canon, int day, int known) {
            partBox(day, known);
            return parts[canon];
        }

        /**
         * What is told once a DAY is over is KNOWN on later DAYS alone, and its BOX
         * stays: the SHARE as KNOWN on the DAY itself is for ever the one PAID.
         */
        private int paidShareOf(int canon, int day) {
            return shareOf(canon, day, day);
        }

        private int owedTo(int canon, int now) {
            int due = 0;
            for (int day = 0; day < now; day++) {
                if (coins[day] > 0 && choir.hasMarks(day)) {
                    due += shareOf(canon, day, now);
                }
            }
            return due - paidShares[canon];
        }

        private void payShares(int day) {
            fabric += partBox(day, day);
            for (int canon = 0; canon < CANONS; canon++) {
                paidShares[canon] += parts[canon];
            }
        }

        private void payWorth(Chapter chapter) {
            for (int canon = 0; canon < chapter.canons; canon++) {
                paidWorth[canon] += chapter.worthOf(canon);
            }
        }

        /** Fills the parts with the SHARE of every CANON and answers the FABRIC's. */
        private int partBox(int day, int known) {
            Arrays.fill(parts, 0);
            int box = Math.max(coins[day], 0);
            int all = box == 0 ? 0 : choir.tallyUp(day, known, acts);
            if (all <= 0) {
                return box;
            }
            int rest = box;
            for (int canon = 0; canon < CANONS; canon++) {
                parts[canon] = box * choir.tally[canon] / all;
                rest -= parts[canon];
            }
            spreadRest(rest);
            return 0;
        }

        private void spreadRest(int lacking) {
            int rest = lacking;
            for (int canon = 0; canon < CANONS && rest > 0; canon++) {
                if (choir.tally[canon] > 0) {
                    parts[canon]++;
                    rest--;
                }
            }
        }
    }

    /** The TAPE. */
    private static final class Tape {
        private int length = 0;
        private final byte[] bytes = new byte[TAPE_BYTES];

        private boolean hasRoom(int more) {
            return length + more <= TAPE_BYTES;
        }

        private void append(int word) {
            if (!hasRoom(4)) {
                return;
            }
            bytes[length] = (byte) (word >> 24);
            bytes[length + 1] = (byte) (word >> 16);
            bytes[length + 2] = (byte) (word >> 8);
            bytes[length + 3] = (byte) word;
            length += 4;
        }

        private boolean cutTo(int n) {
            if (n < 0 || n > length) {
                return false;
            }
            length = n;
            return true;
        }

        /** The byte at a place, or NONE behind the last one. */
        private int at(int place) {
            return place >= 0 && place < length ? bytes[place] & 255 : NONE;
        }
    }

    /** Reads the TAPE as STATUTES into a draft, up to the first FAULT. */
    private static final class Reader {
        private static final int MISPLACED = 0;
        private static final int BAD_NUMBER = 1;
        private static final int TOLD_TWICE = 2;
        private static final int HOUR_WORD = 6;
        private static final int WORDS = 7;

        private final Tape tape;
        private final int[] draft = new int[SLOTS];
        private int place = 0;
        private int slotsTold = 0;
        private int fault = 0;

        private Reader(Tape itsTape) {
            tape = itsTape;
        }

        /** The FAULT, or 0 for a right text. */
        private int read() {
            place = 0;
            slotsTold = 0;
            fault = 0;
            System.arraycopy(WITHOUT, 0, draft, 0, SLOTS);
            skipBlanks();
            boolean goesOn = tape.at(place) != NONE;
            for (int clause = 0; clause <= TAPE_BYTES && goesOn; clause++) {
                readClause();
                goesOn = fault == 0 && readSemicolon();
            }
            return fault;
        }

        private void fail(int where, int kind) {
            fault = 1 + 8 * where + kind;
        }

        private void skipBlanks() {
            while (place < tape.length && tape.at(place) == ' ') {
                place++;
            }
        }

        /** Whether another CLAUSE has to follow. */
        private boolean readSemicolon() {
            skipBlanks();
            int next = tape.at(place);
            if (next == ';') {
                place++;
                return true;
            }
            if (next != NONE) {
                fail(place, MISPLACED);
            }
            return false;
        }

        private void readClause() {
            skipBlanks();
            int where = place;
            int word = readWord();
            int slot = word;
            if (word == NONE) {
                fail(where, MISPLACED);
                return;
            }
            if (word == HOUR_WORD) {
                skipBlanks();
                where = place;
                slot = FIRST_HOUR + readNumber(HOURS - 1);
            }
            if (fault == 0 && (slotsTold & (1 << slot)) != 0) {
                fail(where, TOLD_TWICE);
            }
            if (fault == 0) {
                slotsTold |= 1 << slot;
                draft[slot] = readNumber(HIGHEST[slot]);
            }
        }

        /** Which CLAUSE the WORD begins, or NONE. */
        private int readWord() {
            int start = place;
            while (place < tape.length && isLetter(tape.at(place))) {
                place++;
            }
            for (int word = 0; word < WORDS; word++) {
                if (stands(spelling(word), start)) {
                    return word;
                }
            }
            return NONE;
        }

        private boolean stands(String word, int start) {
            if (word.length() != place - start) {
                return false;
            }
            for (int i = 0; i < word.length(); i++) {
                if (tape.at(start + i) != word.charAt(i)) {
                    return false;
                }
            }
            return true;
        }

        /** The NUMBER, or 0 with a FAULT. */
        private int readNumber(int highest) {
            skipBlanks();
            int start = place;
            int number = 0;
            while (place < tape.length && isDigit(tape.at(place))) {
                /* Held at 1000, so that a long NUMBER can't wrap round to a right one. */
                number = Math.min(number * 10 + tape.at(place) - '0', 1000);
                place++;
            }
            if (place == start) {
                fail(start, MISPLACED);
                return 0;
            }
            if (place - start > 3 || number > highest) {
                fail(start, BAD_NUMBER);
                return 0;
            }
            return number;
        }

        private static boolean isLetter(int c) {
            return c >= 'a' && c <= 'z';
        }

        private static boolean isDigit(int c) {
            return c >= '0' && c <= '9';
        }

        private static String spelling(int word) {
            switch (word) {
                case 0:
                    return "choir";
                case 1:
                    return "late";
                case 2:
                    return "ill";
                case 3:
                    return "business";
                case QUORUM:
                    return "quorum";
                case PROXY:
                    return "proxy";
                default:
                    return "hour";
            }
        }
    }

    /** The VOTE that is OPEN, or was last. */
    private static final class Ballot {
        private static final int NOT_CAST = 0;
        private static final int YES = 1;
        private static final int NO = 2;

        private final Chapter chapter;
        private boolean isOpen = false;
        private boolean wasAny = false;
        private final int[] castAs = new int[CANONS];
        private final int[] givenTo = new int[CANONS];
        private int ayes = 0;
        private int noes = 0;
        private int silent = 0;

        private Ballot(Chapter itsChapter) {
            chapter = itsChapter;
        }

        private void begin() {
            isOpen = true;
            wasAny = true;
            Arrays.fill(castAs, NOT_CAST);
            Arrays.fill(givenTo, NONE);
        }

        private void cast(int canon, boolean yes) {
            castAs[canon] = yes ? YES : NO;
            givenTo[canon] = NONE;
        }

        /**
         * What others gave him stays given (it is nobody's, not theirs again):
         * it counts as his, and he never votes any more.
         */
        private void forget(int canon) {
            castAs[canon] = NOT_CAST;
            givenTo[canon] = NONE;
        }

        private boolean handOver(int canon, int to, int proxy) {
            if (canon == to || !chapter.isThere(canon) || !chapter.isThere(to)) {
                return false;
            }
            if (givenTo[to] != NONE || giversTo(canon, NONE) > 0 || giversTo(to, canon) >= proxy) {
                return false;
            }
            castAs[canon] = NOT_CAST;
            givenTo[canon] = to;
            return true;
        }

        private int giversTo(int canon, int butFor) {
            int givers = 0;
            for (int giver = 0; giver < chapter.canons; giver++) {
                if (giver != butFor && givenTo[giver] == canon) {
                    givers++;
                }
            }
            return givers;
        }

        /** Closes the VOTE and answers whether it has PASSED. */
        private boolean finish(int quorum) {
            countUp();
            isOpen = false;
            return (ayes + noes) * 100 >= quorum * chapter.present && ayes > noes;
        }

        private void countUp() {
            ayes = 0;
            noes = 0;
            silent = 0;
            for (int canon = 0; canon < chapter.canons; canon++) {
                if (chapter.isThere(canon)) {
                    countOne(canon);
                }
            }
        }

        private void countOne(int canon) {
            int to = givenTo[canon];
            int counts = to == NONE ? castAs[canon] : castAs[to];
            if (counts == YES) {
                ayes++;
            } else if (counts == NO) {
                noes++;
            } else {
                silent++;
            }
        }

        private int tell(int what) {
            if (!wasAny) {
                return NONE;
            }
            if (isOpen) {
                countUp();
            }
            switch (what) {
                case 0:
                    return ayes;
                case 1:
                    return noes;
                case 2:
                    return silent;
                case 3:
                    return isOpen ? 1 : 0;
                default:
                    return NONE;
            }
        }
    }
}
