/** The boundary cases of promises 1 to 7, 25 and 26, and of what Terms I and III say of STALLS, CANONS and FALLS. */
public final class StallEdgesTest {
    public static void main(String[] args) {
        newObject();
        stall();
        canon();
        wish();
        takes();
        leaves();
        moved();
        whoMoves();
        whatFalls();
        about();
        count();
        Check.finish("StallEdgesTest");
    }

    private static void newObject() {
        Run.shows("1: no STALLS", """
            count(1) = 0; count(20) = -1; count(31) = -1
            canon(); takes(0, 0) = false; wish(0, 0, true) = false
            """);
        Run.shows("1: no CANONS", """
            count(2) = 0; count(3) = 0; about(0, 0) = -1; back(0) = 0; leaves(0) = -1
            mark(0, 0, 0, 1) = -1; marked(0, 0, 0, 0) = -1; points(0, 0, 0) = -1; share(0, 0, 0) = -1
            night(); paid(0, 0) = -1
            """);
        Run.shows("1: DAY 0", "count(0) = 0; box(0, 5) = true; night() = 1");
        Run.shows("1: nothing else is there", """
            count(4) = 0; count(5) = 0; count(6) = 0; count(7) = 0; moved(0, 0) = -1
            vote(0) = -1; vote(1) = -1; vote(2) = -1; vote(3) = -1; undo(0) = false; close(0) = -1
            """);
        Run.shows("1: an empty book runs to the end", "400 x night() = 400; count(7) = 0; count(1) = 0; count(2) = 0");
    }

    private static void stall() {
        Run.shows("2: its number", "stall(7) = 0; stall(7) = 1; stall(0) = 2; count(1) = 3");
        Run.shows("2: WORTH not as told, below 0", """
            stall(0) = 0; stall(-1) = -1; stall(MIN) = -1; count(1) = 1; stall(3) = 1
            """);
        Run.shows("2: WORTH not as told, above 1000", """
            stall(1000) = 0; stall(1001) = -1; stall(MAX) = -1; count(1) = 1
            """);
        Run.shows("2: there are 12", """
            11 x stall(5); stall(5) = 11; stall(5) = -1; stall(0) = -1; stall(1000) = -1; count(1) = 12
            """);
        Run.shows("2: the end", "399 x night(); stall(5) = 0; night() = 400; stall(5) = -1; count(1) = 1");
        Run.shows("2: it FALLS free at once", """
            2 x canon(); stall(5); count(20) = -1; wish(1, 0, true); takes(0, 0)
            leaves(0) = 1; moved(0, 0) = 1; stall(9); moved(0, 0) = -1; count(21) = -1; count(20) = 1
            """);
        Run.shows("2: NONE is no FALL", """
            2 x canon(); 12 x stall(5); wish(1, 0, true); takes(0, 0); leaves(0) = 1
            stall(5) = -1; moved(0, 0) = 1; moved(0, 1) = -1; moved(0, 2) = 0
            """);
        Run.shows("2: NONE is no FALL, of a WORTH not as told", """
            2 x canon(); stall(5); wish(1, 0, true); takes(0, 0); leaves(0) = 1; stall(-1) = -1; stall(1001) = -1
            moved(0, 0) = 1; moved(0, 2) = 0
            """);
    }

    private static void canon() {
        Run.shows("3: the number, in their ORDER", """
            canon() = 0; canon() = 1; leaves(1) = 0; canon() = 2; count(2) = 3; count(3) = 2
            """);
        Run.shows("3: without a STALL", "stall(5); canon(); about(0, 1) = -1; about(0, 0) = 1; count(20) = -1");
        Run.shows("3: there are 20", "19 x canon() = 18; canon() = 19; canon() = -1; count(2) = 20; count(3) = 20");
        Run.shows("3: there are 20, who left too", """
            20 x canon(); leaves(19) = 0; leaves(0) = 0; canon() = -1; count(2) = 20; count(3) = 18
            """);
        Run.shows("3: the end", "399 x night(); canon() = 0; night(); canon() = -1; count(2) = 1");
    }

    private static void wish() {
        Run.shows("4: whether that changed anything", """
            canon(); stall(5)
            wish(0, 0, false) = false; wish(0, 0, true) = true; wish(0, 0, true) = false
            wish(0, 0, false) = true; wish(0, 0, false) = false
            """);
        Run.shows("4: false without the CANON", """
            stall(5); wish(0, 0, true) = false; 2 x canon(); wish(1, 0, true) = true
            wish(2, 0, true) = false; wish(-1, 0, true) = false; wish(MIN, 0, true) = false; wish(MAX, 0, true) = false
            canon(); wish(2, 0, true) = true
            """);
        Run.shows("4: false without the STALL", """
            2 x canon(); wish(0, 0, true) = false; 2 x stall(5); wish(0, 1, true) = true
            wish(0, 2, true) = false; wish(0, -1, true) = false; wish(1, -1, true) = false
            wish(0, MIN, true) = false; wish(0, MAX, true) = false; stall(5); wish(0, 2, true) = true
            """);
        Run.shows("4: the last CANON and the last STALL of a full book", """
            20 x canon(); 12 x stall(5); wish(19, 11, true) = true; wish(19, 12, true) = false
            wish(20, 11, true) = false
            wish(0, 12, true) = false; wish(1, 0, true) = true; wish(0, 11, true) = true; wish(0, 0, true) = true
            """);
        Run.shows("4: of one who left", """
            2 x canon(); stall(5); leaves(1) = 0; wish(1, 0, true) = true; wish(1, 0, true) = false
            """);
        Run.shows("4: who leaves keeps his WISHES", """
            2 x canon(); stall(5); wish(1, 0, true); leaves(1) = 0; wish(1, 0, true) = false; wish(1, 0, false) = true
            """);
        Run.shows("4: at the end", """
            canon(); 2 x stall(5); 399 x night(); wish(0, 0, true) = true; night()
            wish(0, 1, true) = false; wish(0, 0, false) = false
            """);
    }

    private static void takes() {
        Run.shows("5: a CANON there", """
            takes(0, 0) = false; stall(5); takes(0, 0) = false; 3 x canon(); leaves(1) = 0; takes(1, 0) = false
            takes(3, 0) = false; takes(-1, 0) = false; takes(MIN, 0) = false; takes(MAX, 0) = false; takes(2, 0) = true
            count(20) = 2
            """);
        Run.shows("5: without a STALL", """
            canon(); 2 x stall(5); takes(0, 1) = true; takes(0, 0) = false; takes(0, 1) = false; about(0, 1) = 1
            count(20) = -1
            """);
        Run.shows("5: one that nobody has", """
            2 x canon(); 2 x stall(5); takes(0, 0) = true; takes(1, 0) = false; about(1, 1) = -1; count(20) = 0
            leaves(0) = 0; takes(1, 0) = true; count(20) = 1
            """);
        Run.shows("5: no such STALL", """
            canon(); takes(0, 0) = false; stall(5); takes(0, 1) = false; takes(0, -1) = false; takes(0, MIN) = false
            takes(0, MAX) = false; takes(0, 12) = false; takes(0, 0) = true
            """);
        Run.shows("5: the last CANON, the last STALL", """
            20 x canon(); 12 x stall(5); takes(19, 12) = false; takes(20, 11) = false; takes(19, 11) = true
            about(19, 1) = 11; count(31) = 19
            """);
        Run.shows("5: no WISH is needed, none is used up", """
            2 x canon(); stall(5); wish(1, 0, true); takes(1, 0) = true; wish(1, 0, true) = false; leaves(0) = 0
            count(20) = 1
            """);
        Run.shows("5: at the end", """
            2 x canon(); 2 x stall(5); 399 x night(); takes(0, 0) = true; night(); takes(1, 1) = false
            about(1, 1) = -1; count(21) = -1; about(0, 1) = 0
            """);
    }

    private static void leaves() {
        Run.shows("6: NONE without him there", """
            leaves(0) = -1; 2 x canon(); leaves(2) = -1; leaves(-1) = -1; leaves(MIN) = -1; leaves(MAX) = -1
            leaves(1) = 0; leaves(1) = -1; count(3) = 1; leaves(0) = 0; leaves(0) = -1; count(3) = 0; count(2) = 2
            """);
        Run.shows("6: the last of a full book", """
            20 x canon(); leaves(20) = -1; leaves(19) = 0; leaves(19) = -1; count(3) = 19
            """);
        Run.shows("6: who leaves has no STALL", """
            canon(); stall(5); takes(0, 0); leaves(0) = 0; about(0, 0) = 0; about(0, 1) = -1; count(20) = -1
            """);
        Run.shows("6: at the end", """
            2 x canon(); stall(5); takes(0, 0); wish(1, 0, true); 399 x night(); leaves(0) = 1; night(); leaves(1) = -1
            about(1, 0) = 1; about(1, 1) = 0; count(3) = 1
            """);
        Run.shows("6: how many MOVES that made, none", "2 x canon(); stall(5); takes(0, 0); leaves(0) = 0");
        Run.shows("6: how many MOVES that made, one", """
            2 x canon(); stall(5); takes(0, 0); wish(1, 0, true); leaves(0) = 1
            """);
        Run.shows("6: how many MOVES that made, as many as there can be", longest() + """
            leaves(0) = 12; moved(0, 0) = 1; moved(0, 1) = 1; moved(0, 2) = 0; moved(10, 0) = 11; moved(10, 1) = 11
            moved(11, 0) = 12; moved(11, 1) = -1; moved(11, 2) = 11; moved(12, 0) = -1; count(31) = 12; count(20) = 1
            """);
        Run.shows("6: who has no STALL frees none", """
            3 x canon(); stall(5); takes(0, 0); wish(1, 0, true); leaves(2) = 0; count(20) = 0; about(1, 1) = -1
            """);
    }

    /** Twelve STALLS, each worth one less than the one ahead, and thirteen CANONS who each wish for the next better. */
    private static String longest() {
        StringBuilder rows = new StringBuilder("13 x canon()\n");
        for (int stall = 0; stall < 12; stall++) {
            rows.append("stall(" + (900 - stall) + "); takes(" + stall + ", " + stall + ")\n");
            rows.append("wish(" + (stall + 1) + ", " + stall + ", true)\n");
        }
        return rows.toString();
    }

    private static void moved() {
        String two = """
            4 x canon(); stall(30); stall(20); takes(0, 0); takes(1, 1); wish(1, 0, true); wish(2, 1, true)
            leaves(0) = 2
            """;
        Run.shows("7: what 0, the CANON", two + "moved(0, 0) = 1; moved(1, 0) = 2");
        Run.shows("7: what 1, from which STALL (NONE)", two + "moved(0, 1) = 1; moved(1, 1) = -1");
        Run.shows("7: what 2, to which", two + "moved(0, 2) = 0; moved(1, 2) = 1");
        Run.shows("7: NONE without it", two + """
            moved(2, 0) = -1; moved(2, 2) = -1; moved(-1, 0) = -1; moved(MIN, 0) = -1; moved(MAX, 0) = -1
            moved(12, 0) = -1
            """);
        Run.shows("7: NONE for another what", two + """
            moved(0, 3) = -1; moved(0, -1) = -1; moved(1, 3) = -1; moved(0, MIN) = -1; moved(0, MAX) = -1
            """);
        Run.shows("7: ahead of any FALL", "moved(0, 0) = -1; moved(0, 1) = -1; moved(0, 2) = -1");
        Run.shows("7: the latest FALL, by leaves()", two + """
            wish(3, 0, true); leaves(1) = 1; moved(0, 0) = 3; moved(0, 1) = -1; moved(0, 2) = 0; moved(1, 0) = -1
            """);
        Run.shows("7: the latest FALL, by leaves() without MOVES", two + """
            leaves(2) = 0; moved(0, 0) = -1; moved(0, 2) = -1
            """);
        Run.shows("7: the latest FALL, by leaves() without a STALL", two + """
            leaves(3) = 0; moved(0, 0) = -1; moved(1, 0) = -1
            """);
        Run.shows("7: the latest FALL, by stall()", two + "stall(0) = 2; moved(0, 0) = -1; moved(1, 2) = -1");
        Run.shows("7: takes(), wish(), canon() and night() keep the latest FALL", """
            3 x canon(); stall(30); stall(20); takes(0, 0); wish(1, 0, true); leaves(0) = 1; canon(); takes(3, 1)
            wish(2, 1, true); night(); moved(0, 0) = 1; moved(0, 2) = 0; moved(1, 0) = -1
            """);
        Run.shows("7: it is told at the end too", two + """
            400 x night() = 400; moved(1, 0) = 2; leaves(2) = -1; stall(5) = -1; moved(1, 0) = 2
            """);
    }

    private static void whoMoves() {
        Run.shows("III: the first by ORDER", """
            4 x canon(); stall(30); takes(0, 0); wish(3, 0, true); wish(2, 0, true); leaves(0) = 1; moved(0, 0) = 2
            about(3, 1) = -1
            """);
        Run.shows("III: the first by ORDER, by none that ORDER of WORTH", """
            4 x canon(); stall(30); stall(20); stall(10); takes(0, 0); takes(1, 1); takes(2, 2)
            wish(1, 0, true); wish(2, 0, true); wish(3, 0, true); leaves(0) = 1; moved(0, 0) = 1
            """);
        Run.shows("III: CANON 0, too", """
            2 x canon(); stall(3); takes(1, 0); wish(0, 0, true); leaves(1) = 1; moved(0, 0) = 0
            """);
        Run.shows("III: CANON 19, too", """
            20 x canon(); 12 x stall(3); takes(0, 11); wish(19, 11, true); leaves(0) = 1; moved(0, 0) = 19
            moved(0, 2) = 11
            """);
        Run.shows("III: of those there", """
            4 x canon(); stall(30); takes(0, 0); wish(1, 0, true); wish(2, 0, true); leaves(1) = 0; leaves(0) = 1
            moved(0, 0) = 2
            """);
        Run.shows("III: not he who leaves", """
            canon(); stall(30); wish(0, 0, true); takes(0, 0); leaves(0) = 0; count(20) = -1
            """);
        Run.shows("III: who WISH for it", """
            3 x canon(); stall(30); stall(40); takes(0, 0); wish(1, 0, true); wish(1, 0, false); wish(2, 1, true)
            leaves(0) = 0
            """);
        Run.shows("III: whose own STALL is worth less, by one coin", """
            2 x canon(); stall(30); stall(29); takes(0, 0); takes(1, 1); wish(1, 0, true); leaves(0) = 1
            about(1, 1) = 0; count(21) = -1
            """);
        Run.shows("III: not whose own is worth as much", """
            2 x canon(); stall(30); stall(30); takes(0, 0); takes(1, 1); wish(1, 0, true); leaves(0) = 0
            about(1, 1) = 1; count(20) = -1
            """);
        Run.shows("III: not whose own is worth more", """
            2 x canon(); stall(30); stall(31); takes(0, 0); takes(1, 1); wish(1, 0, true); leaves(0) = 0
            about(1, 1) = 1
            """);
        Run.shows("III: nor of 0 coins with one of 0 coins", """
            3 x canon(); stall(0); stall(0); takes(0, 0); takes(1, 1); wish(1, 0, true); leaves(0) = 0; wish(2, 1, true)
            leaves(1) = 1
            """);
        Run.shows("III: or who have none, for one of 0 coins", """
            2 x canon(); stall(0); takes(0, 0); wish(1, 0, true); leaves(0) = 1; moved(0, 1) = -1; about(1, 1) = 0
            """);
        Run.shows("III: 0 coins and 1000", """
            2 x canon(); stall(1000); stall(0); takes(0, 0); takes(1, 1); wish(1, 0, true); leaves(0) = 1
            moved(0, 1) = 1
            """);
    }

    private static void whatFalls() {
        Run.shows("III: what he leaves falls free likewise", """
            4 x canon(); stall(10); stall(30); stall(20); takes(0, 1); takes(3, 2); takes(2, 0)
            wish(3, 1, true); wish(2, 2, true); wish(1, 0, true); leaves(0) = 3
            moved(0, 0) = 3; moved(1, 0) = 2; moved(2, 0) = 1; moved(2, 1) = -1; count(20) = 1; count(21) = 3
            count(22) = 2
            """);
        Run.shows("III: and so on, as far as one wishes", """
            4 x canon(); stall(10); stall(30); stall(20); takes(0, 1); takes(3, 2); takes(2, 0)
            wish(3, 1, true); wish(1, 0, true); leaves(0) = 1; count(22) = -1; count(20) = 2; about(1, 1) = -1
            """);
        Run.shows("III: who has moved in this FALL moves no more", """
            3 x canon(); stall(30); stall(20); takes(0, 0); takes(1, 1); wish(1, 0, true); wish(1, 1, true)
            wish(2, 1, true)
            leaves(0) = 2; moved(0, 0) = 1; moved(1, 0) = 2; about(1, 1) = 0
            """);
        Run.shows("III: nobody else: it stays free", """
            2 x canon(); stall(30); stall(20); takes(0, 0); takes(1, 1); wish(1, 0, true); wish(1, 1, true)
            leaves(0) = 1; about(1, 1) = 0; count(21) = -1; moved(1, 0) = -1
            """);
        Run.shows("III: in the next FALL he may move again", """
            3 x canon(); stall(30); stall(20); stall(10); takes(0, 0); takes(1, 1); takes(2, 2); wish(2, 0, true)
            wish(2, 1, true)
            leaves(1) = 1; moved(0, 0) = 2; leaves(0) = 1; moved(0, 0) = 2; moved(0, 1) = 1; moved(0, 2) = 0
            """);
        Run.shows("III: a WISH for what is free already moves nobody", """
            2 x canon(); stall(30); stall(20); wish(0, 0, true); about(0, 1) = -1; takes(1, 1); leaves(1) = 0
            about(0, 1) = -1
            """);
        Run.shows("III: who moves keeps his WISHES", """
            2 x canon(); stall(30); takes(0, 0); wish(1, 0, true); leaves(0) = 1; wish(1, 0, true) = false
            wish(1, 0, false) = true
            """);
        Run.shows("I: no STALL has two, no CANON has two", """
            3 x canon(); stall(30); stall(20); takes(0, 0); takes(1, 1); wish(1, 0, true); wish(2, 0, true)
            wish(2, 1, true)
            leaves(0) = 2; count(20) = 1; count(21) = 2; about(1, 1) = 0; about(2, 1) = 1; takes(1, 1) = false
            takes(2, 0) = false
            """);
    }

    private static void about() {
        Run.shows("25: what 0, 1 if there, else 0", """
            2 x canon(); about(1, 0) = 1; leaves(1) = 0; about(1, 0) = 0; about(0, 0) = 1
            """);
        Run.shows("25: what 1, his STALL (NONE)", """
            canon(); 12 x stall(5); about(0, 1) = -1; takes(0, 11); about(0, 1) = 11; leaves(0) = 0; about(0, 1) = -1
            canon(); takes(1, 0); about(1, 1) = 0
            """);
        Run.shows("25: what 2, of all SHARES he was PAID", """
            canon(); box(0, 100000); box(1, 1); box(2, 0); mark(0, 0, 0, 1); about(0, 2) = 0; night()
            about(0, 2) = 100000
            mark(0, 1, 0, 1); night(); about(0, 2) = 100001; mark(0, 2, 0, 1); night(); about(0, 2) = 100001
            mark(0, 0, 0, 0); about(0, 2) = 100001
            """);
        Run.shows("25: what 3, of WORTH", """
            3 x canon(); stall(1000); stall(0); takes(0, 0); takes(1, 1); about(0, 3) = 0; night(); about(0, 3) = 1000
            about(1, 3) = 0; about(2, 3) = 0; 399 x night() = 400; about(0, 3) = 400000; night() = -1
            about(0, 3) = 400000
            """);
        Run.shows("25: NONE without him", """
            about(0, 0) = -1; about(0, 3) = -1; 2 x canon(); about(2, 0) = -1; about(-1, 0) = -1; about(-1, 2) = -1
            about(MIN, 0) = -1; about(MAX, 3) = -1; about(1, 3) = 0
            """);
        Run.shows("25: of a full book", """
            20 x canon(); about(19, 0) = 1; about(20, 0) = -1; about(19, 2) = 0; about(20, 2) = -1
            """);
        Run.shows("25: NONE for another what", """
            canon(); about(0, -1) = -1; about(0, 4) = -1; about(0, MIN) = -1; about(0, MAX) = -1
            """);
    }

    private static void count() {
        Run.shows("26: what 0, NOW", """
            count(0) = 0; night(); count(0) = 1; 398 x night(); count(0) = 399; night(); count(0) = 400; night() = -1
            count(0) = 400
            """);
        Run.shows("26: what 1, STALLS", "12 x stall(1); count(1) = 12");
        Run.shows("26: what 2, CANONS, and 3, those there", """
            20 x canon(); count(3) = 20; leaves(7) = 0; count(2) = 20; count(3) = 19
            """);
        Run.shows("26: what 4, MARKS", """
            canon(); 3 x mark(0, 0, 0, 1); count(4) = 3; mark(0, 0, 7, 1) = -1; count(4) = 3
            """);
        Run.shows("26: what 5, ACTS", """
            canon(); open(); votes(0, true); close(0) = 0; count(5) = 1; undo(0); count(5) = 1; open(); close(0) = -2
            count(5) = 1
            """);
        Run.shows("26: what 6, bytes of the TAPE", """
            count(6) = 0; feed(0, 0, 0, 0, 0); count(6) = 20; end(3); count(6) = 3; end(0); count(6) = 0
            """);
        Run.shows("26: what 7, the FABRIC's coins as PAID", """
            canon(); box(0, 100000); box(1, 7); box(2, 5); count(7) = 0; night(); count(7) = 100000; mark(0, 1, 0, 1)
            night()
            count(7) = 100000; night(); count(7) = 100005; mark(0, 0, 0, 1); mark(0, 1, 0, 0); count(7) = 100005
            """);
        Run.shows("26: 20 + s, the CANON in a STALL (NONE)", """
            20 x canon(); 12 x stall(5); takes(0, 0); takes(19, 11); takes(5, 6); count(20) = 0; count(31) = 19
            count(26) = 5
            count(21) = -1; count(30) = -1; leaves(0) = 0; count(20) = -1
            """);
        Run.shows("26: 20 + s without the STALL", """
            count(20) = -1; 2 x stall(5); canon(); takes(0, 1); count(21) = 0; count(22) = -1; count(31) = -1
            """);
        Run.shows("26: NONE for others", """
            20 x canon(); 12 x stall(5); takes(0, 0); takes(1, 11); count(-1) = -1; count(8) = -1; count(9) = -1
            count(19) = -1
            count(32) = -1; count(MAX) = -1; count(MIN) = -1; count(-20) = -1
            """);
    }
}
