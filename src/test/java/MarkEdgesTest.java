/** The boundary cases of promises 8 to 15, and of what Terms I and II say of MARKS, the BOX, POINTS, SHARES and NIGHTS. */
public final class MarkEdgesTest {
    public static void main(String[] args) {
        mark();
        markLimit();
        box();
        boxStays();
        night();
        marked();
        knownFromNowOn();
        points();
        pointsByWhatIsInForce();
        share();
        shareParts();
        paid();
        back();
        theEnd();
        Check.finish("MarkEdgesTest");
    }

    private static void mark() {
        Run.shows("8: how many there are", """
            canon(); mark(0, 0, 0, 1) = 1; mark(0, 0, 0, 1) = 2; mark(0, 0, 1, 0) = 3; count(4) = 3
            """);
        Run.shows("8: the CANON is not as told", """
            mark(0, 0, 0, 1) = -1; 2 x canon(); mark(1, 0, 0, 1) = 1; mark(2, 0, 0, 1) = -1; mark(-1, 0, 0, 1) = -1
            mark(MIN, 0, 0, 1) = -1; mark(MAX, 0, 0, 1) = -1; count(4) = 1
            """);
        Run.shows("8: the last CANON of a full book", """
            20 x canon(); mark(19, 0, 0, 1) = 1; mark(20, 0, 0, 1) = -1; marked(19, 0, 0, 0) = 1
            """);
        Run.shows("8: CANONS there or not", """
            2 x canon(); leaves(0) = 0; mark(0, 0, 0, 1) = 1; night(); mark(0, 1, 0, 2) = 2; marked(0, 1, 0, 1) = 2
            """);
        Run.shows("8: the DAY is not behind NOW, on DAY 0", """
            canon(); mark(0, 0, 0, 1) = 1; mark(0, 1, 0, 1) = -1; mark(0, -1, 0, 1) = -1; mark(0, MIN, 0, 1) = -1
            mark(0, MAX, 0, 1) = -1; mark(0, 399, 0, 1) = -1; mark(0, 400, 0, 1) = -1
            """);
        Run.shows("8: the DAY is not behind NOW, later", """
            canon(); 5 x night(); mark(0, 5, 0, 1) = 1; mark(0, 6, 0, 1) = -1; mark(0, 4, 0, 1) = 2
            mark(0, 0, 0, 1) = 3
            mark(0, -1, 0, 1) = -1; marked(0, 6, 0, 399) = 0
            """);
        Run.shows("8: the DAY is not behind NOW, on the last DAY", """
            canon(); 399 x night(); mark(0, 399, 0, 1) = 1; mark(0, 400, 0, 1) = -1; mark(0, 0, 0, 1) = 2
            """);
        Run.shows("8: HOURS 0 to 6", """
            canon(); mark(0, 0, 0, 1) = 1; mark(0, 0, 6, 1) = 2; mark(0, 0, -1, 1) = -1; mark(0, 0, 7, 1) = -1
            mark(0, 0, MIN, 1) = -1; mark(0, 0, MAX, 1) = -1; count(4) = 2
            """);
        Run.shows("8: MARKS 0 to 4", """
            canon(); mark(0, 0, 0, 4) = 1; mark(0, 0, 0, -1) = -1; mark(0, 0, 0, 5) = -1; mark(0, 0, 0, MIN) = -1
            mark(0, 0, 0, MAX) = -1; marked(0, 0, 0, 0) = 4; mark(0, 0, 0, 0) = 2; marked(0, 0, 0, 0) = 0
            """);
        Run.shows("8: the end", """
            canon(); 399 x night(); mark(0, 0, 0, 1) = 1; night(); mark(0, 0, 0, 2) = -1; mark(0, 399, 0, 2) = -1
            mark(0, 400, 0, 2) = -1; marked(0, 0, 0, 399) = 1; count(4) = 1
            """);
    }

    private static void markLimit() {
        Run.shows("8: 400 MARKS at most", """
            canon(); 398 x mark(0, 0, 0, 1) = 398; mark(0, 0, 0, 3) = 399; mark(0, 0, 0, 2) = 400; mark(0, 0, 0, 4) = -1
            mark(0, 0, 1, 1) = -1; count(4) = 400; marked(0, 0, 0, 0) = 2; marked(0, 0, 1, 0) = 0; points(0, 0, 0) = 1
            night(); mark(0, 1, 0, 1) = -1; mark(0, 0, 0, 1) = -1; count(4) = 400
            """);
        Run.shows("8: 400 MARKS, the first of them stands", """
            2 x canon(); mark(1, 0, 6, 4) = 1; 399 x mark(0, 0, 0, 1) = 400; marked(1, 0, 6, 0) = 4; points(1, 0, 0) = 1
            mark(1, 0, 6, 1) = -1; marked(1, 0, 6, 0) = 4
            """);
    }

    private static void box() {
        Run.shows("9: coins 0 to 100000, below", """
            box(0, -1) = false; box(0, MIN) = false; box(0, 0) = true; night(); count(7) = 0
            """);
        Run.shows("9: coins 0 to 100000, above", """
            box(0, 100001) = false; box(0, MAX) = false; box(0, 100000) = true; night(); count(7) = 100000
            """);
        Run.shows("9: DAYS 0 to 399", """
            box(-1, 5) = false; box(MIN, 5) = false; box(400, 5) = false; box(MAX, 5) = false; box(0, 5) = true
            box(399, 5) = true
            """);
        Run.shows("9: from NOW on", """
            3 x night(); box(2, 5) = false; box(0, 5) = false; box(3, 5) = true; box(4, 6) = true; night(); count(7) = 5
            night(); count(7) = 11
            """);
        Run.shows("9: from NOW on, the last DAY", """
            399 x night(); box(398, 5) = false; box(400, 5) = false; box(399, 5) = true; night(); count(7) = 5
            """);
        Run.shows("9: at the end", """
            400 x night(); box(399, 5) = false; box(400, 5) = false; box(0, 5) = false; count(7) = 0
            """);
    }

    private static void boxStays() {
        Run.shows("9: told already", """
            canon(); mark(0, 0, 0, 1); box(0, 5) = true; box(0, 5) = false; box(0, 6) = false; box(0, 0) = false
            share(0, 0, 0) = 5
            """);
        Run.shows("9: told already, of 0 coins", "box(0, 0) = true; box(0, 5) = false; night(); count(7) = 0");
        Run.shows("9: told already, on an earlier DAY", """
            box(2, 5) = true; 2 x night(); box(2, 6) = false; night(); count(7) = 5
            """);
        Run.shows("9: refused, it is not told", """
            box(0, 100001) = false; box(0, -1) = false; box(0, 7) = true; night(); count(7) = 7
            """);
        Run.shows("9: 0 without", """
            canon(); mark(0, 0, 0, 1); share(0, 0, 0) = 0; night(); paid(0, 0) = 0; count(7) = 0; back(0) = 0
            """);
        Run.shows("9: another DAY has its own", """
            box(0, 1) = true; box(1, 2) = true; box(398, 3) = true; night(); count(7) = 1; night(); count(7) = 3
            """);
    }

    private static void night() {
        Run.shows("10: NOW is one more", """
            night() = 1; night() = 2; count(0) = 2; 397 x night() = 399; night() = 400; count(0) = 400
            """);
        Run.shows("10: NONE, and nothing happens, at the end", """
            canon(); stall(3); takes(0, 0); box(399, 9); 399 x night() = 399; night() = 400; night() = -1; night() = -1
            count(0) = 400; count(7) = 9; about(0, 3) = 1200
            """);
        Run.shows("10: SHARES of NOW as KNOWN NOW are PAID", """
            2 x canon(); mark(0, 0, 0, 1); box(0, 10); box(1, 20); night(); about(0, 2) = 10; mark(1, 0, 0, 1)
            mark(1, 1, 0, 1)
            night(); about(0, 2) = 10; about(1, 2) = 20; paid(1, 0) = 0; paid(1, 1) = 20
            """);
        Run.shows("10: each CANON with a STALL gets its WORTH besides", """
            4 x canon(); stall(1000); stall(0); stall(1); takes(0, 0); takes(1, 1); takes(2, 2); night()
            about(0, 3) = 1000
            about(1, 3) = 0; about(2, 3) = 1; about(3, 3) = 0; about(0, 2) = 0
            """);
        Run.shows("10: the STALL that he has at NIGHT", """
            3 x canon(); stall(50); stall(20); takes(0, 0); takes(1, 1); wish(1, 0, true); night(); leaves(0) = 1
            night()
            about(0, 3) = 50; about(1, 3) = 70; about(2, 3) = 0
            """);
        Run.shows("10: WORTH is no SHARE", """
            canon(); stall(50); takes(0, 0); night(); about(0, 2) = 0; paid(0, 0) = 0; count(7) = 0; back(0) = 0
            """);
        Run.shows("10: without any POINTS all of it is the FABRIC's", """
            canon(); box(0, 9); box(1, 8); box(2, 7); mark(0, 0, 0, 0); night(); count(7) = 9; night(); count(7) = 17
            mark(0, 2, 0, 1); night(); count(7) = 17; about(0, 2) = 7
            """);
        Run.shows("10: without any CANON all of it is the FABRIC's", "box(0, 100000); night(); count(7) = 100000");
    }

    private static void marked() {
        Run.shows("11: without a MARK 0", """
            canon(); marked(0, 0, 0, 0) = 0; marked(0, 399, 6, 399) = 0; mark(0, 0, 0, 3); marked(0, 0, 1, 0) = 0
            """);
        Run.shows("11: NONE without the CANON", """
            marked(0, 0, 0, 0) = -1; 2 x canon(); marked(1, 0, 0, 0) = 0; marked(2, 0, 0, 0) = -1
            marked(-1, 0, 0, 0) = -1
            marked(MIN, 0, 0, 0) = -1; marked(MAX, 0, 0, 0) = -1
            """);
        Run.shows("11: NONE without the CANON, of a full book", """
            20 x canon(); mark(19, 0, 0, 2); marked(19, 0, 0, 0) = 2; marked(20, 0, 0, 0) = -1
            """);
        Run.shows("11: NONE without the DAY", """
            canon(); marked(0, 0, 0, 399) = 0; marked(0, -1, 0, 399) = -1; marked(0, 399, 0, 399) = 0
            marked(0, 400, 0, 399) = -1
            marked(0, MIN, 0, 0) = -1; marked(0, MAX, 0, 0) = -1
            """);
        Run.shows("11: NONE without the HOUR", """
            canon(); marked(0, 0, 0, 0) = 0; marked(0, 0, -1, 0) = -1; marked(0, 0, 6, 0) = 0; marked(0, 0, 7, 0) = -1
            marked(0, 0, MIN, 0) = -1; marked(0, 0, MAX, 0) = -1
            """);
        Run.shows("11: NONE without the DAY on which it is KNOWN", """
            canon(); mark(0, 0, 0, 1); marked(0, 0, 0, 0) = 1; marked(0, 0, 0, -1) = -1; marked(0, 0, 0, 399) = 1
            marked(0, 0, 0, 400) = -1; marked(0, 0, 0, MIN) = -1; marked(0, 0, 0, MAX) = -1
            """);
        Run.shows("11: of one who left", "canon(); mark(0, 0, 0, 1); leaves(0) = 0; marked(0, 0, 0, 0) = 1");
        Run.shows("11: each CANON, DAY and HOUR has its own", """
            2 x canon(); night(); mark(0, 0, 6, 1); mark(1, 0, 0, 2); mark(0, 1, 0, 3); mark(1, 1, 6, 4)
            marked(0, 0, 6, 1) = 1; marked(1, 0, 0, 1) = 2; marked(0, 1, 0, 1) = 3; marked(1, 1, 6, 1) = 4
            marked(0, 0, 0, 1) = 0; marked(1, 0, 6, 1) = 0; marked(0, 1, 6, 1) = 0; marked(1, 1, 0, 1) = 0
            """);
        Run.shows("11: at the end", """
            canon(); 399 x night(); mark(0, 399, 6, 4); night(); marked(0, 399, 6, 399) = 4; marked(0, 399, 6, 400) = -1
            """);
    }

    private static void knownFromNowOn() {
        Run.shows("I: KNOWN from NOW on", """
            canon(); 3 x night(); mark(0, 1, 0, 1); marked(0, 1, 0, 0) = 0; marked(0, 1, 0, 2) = 0
            marked(0, 1, 0, 3) = 1; marked(0, 1, 0, 399) = 1
            """);
        Run.shows("I: the last one told of those KNOWN by k", """
            canon(); mark(0, 0, 0, 1); mark(0, 0, 0, 2); night(); mark(0, 0, 0, 3); mark(0, 0, 0, 4); 2 x night()
            mark(0, 0, 0, 0)
            marked(0, 0, 0, 0) = 2; marked(0, 0, 0, 1) = 4; marked(0, 0, 0, 2) = 4; marked(0, 0, 0, 3) = 0
            marked(0, 0, 0, 399) = 0
            """);
        Run.shows("I: KNOWN on the last DAY alone", """
            canon(); mark(0, 0, 0, 1); 399 x night(); mark(0, 0, 0, 2); marked(0, 0, 0, 398) = 1
            marked(0, 0, 0, 399) = 2
            """);
        Run.shows("I: away is told, too", """
            canon(); mark(0, 0, 0, 1); night(); mark(0, 0, 0, 0); marked(0, 0, 0, 0) = 1; marked(0, 0, 0, 1) = 0
            points(0, 0, 1) = 0
            """);
    }

    private static void points() {
        Run.shows("12: NONE without the CANON", """
            points(0, 0, 0) = -1; 2 x canon(); points(1, 0, 0) = 0; points(2, 0, 0) = -1; points(-1, 0, 0) = -1
            points(MIN, 0, 0) = -1; points(MAX, 0, 0) = -1
            """);
        Run.shows("12: NONE without the CANON, of a full book", """
            20 x canon(); mark(19, 0, 0, 1); points(19, 0, 0) = 2; points(20, 0, 0) = -1
            """);
        Run.shows("12: NONE without the DAY", """
            canon(); points(0, 0, 0) = 0; points(0, -1, 0) = -1; points(0, 399, 0) = 0; points(0, 400, 0) = -1
            points(0, MIN, 0) = -1; points(0, MAX, 0) = -1
            """);
        Run.shows("12: NONE without the DAY on which it is KNOWN", """
            canon(); mark(0, 0, 0, 1); points(0, 0, 0) = 2; points(0, 0, -1) = -1; points(0, 0, 399) = 2
            points(0, 0, 400) = -1
            points(0, 0, MIN) = -1; points(0, 0, MAX) = -1
            """);
        Run.shows("12: away 0, choir 2, late 1, ill 2, business 1 without an ACT", """
            5 x canon(); mark(0, 0, 0, 0); mark(1, 0, 0, 1); mark(2, 0, 0, 2); mark(3, 0, 0, 3); mark(4, 0, 0, 4)
            points(0, 0, 0) = 0; points(1, 0, 0) = 2; points(2, 0, 0) = 1; points(3, 0, 0) = 2; points(4, 0, 0) = 1
            """);
        Run.shows("12: of each HOUR, all together", """
            canon(); mark(0, 0, 0, 1); points(0, 0, 0) = 2; mark(0, 0, 1, 1); mark(0, 0, 2, 1); mark(0, 0, 3, 1)
            mark(0, 0, 4, 1)
            mark(0, 0, 5, 1); points(0, 0, 0) = 12; mark(0, 0, 6, 1); points(0, 0, 0) = 14
            """);
        Run.shows("12: an HOUR counts by its last MARK alone", """
            canon(); mark(0, 0, 0, 1); mark(0, 0, 0, 1); mark(0, 0, 0, 2); points(0, 0, 0) = 1; mark(0, 0, 0, 0)
            points(0, 0, 0) = 0
            """);
        Run.shows("12: an HOUR counts by its last MARK alone, the last HOUR too", """
            canon(); mark(0, 0, 6, 1); mark(0, 0, 6, 2); points(0, 0, 0) = 1; mark(0, 0, 1, 1); mark(0, 0, 1, 1)
            points(0, 0, 0) = 3
            """);
        Run.shows("12: an HOUR counts by its last MARK alone, with others told between", """
            2 x canon(); mark(0, 0, 0, 1); mark(0, 0, 1, 1); mark(1, 0, 0, 2); mark(0, 0, 6, 1); mark(0, 0, 0, 2)
            mark(0, 0, 6, 2)
            points(0, 0, 0) = 4; points(1, 0, 0) = 1; box(0, 5); share(0, 0, 0) = 4; share(1, 0, 0) = 1
            """);
        Run.shows("12: as KNOWN on a DAY", """
            canon(); 2 x night(); mark(0, 0, 0, 1); points(0, 0, 1) = 0; points(0, 0, 2) = 2; night(); mark(0, 0, 0, 2)
            points(0, 0, 2) = 2; points(0, 0, 3) = 1
            """);
    }

    private static void pointsByWhatIsInForce() {
        Run.shows("12: of each HOUR its number times that of its MARK", """
            canon(); mark(0, 0, 0, 1); mark(0, 0, 6, 2); mark(0, 0, 3, 3); mark(0, 0, 5, 0)
            tape('choir 9;late 8;ill 7;hour 0 6;hour 6 5;hour 3 0;hour 5 9'); open(); votes(0, true); close(0) = 0
            points(0, 0, 0) = 94
            """);
        Run.shows("12: the most that there can be", """
            canon(); mark(0, 0, 0, 1); mark(0, 0, 1, 2); mark(0, 0, 2, 3); mark(0, 0, 3, 4); mark(0, 0, 4, 1)
            mark(0, 0, 5, 2)
            mark(0, 0, 6, 3)
            tape('choir 9;late 9;ill 9;business 9;hour 0 9;hour 1 9;hour 2 9;hour 3 9;hour 4 9;hour 5 9;hour 6 9')
            open(); votes(0, true); close(0) = 0; points(0, 0, 0) = 567
            """);
        Run.shows("12: by what is IN FORCE on that DAY, not on the one on which it is KNOWN", """
            canon(); mark(0, 0, 0, 1); tape('choir 9'); open(); votes(0, true); close(1) = 0; night(); mark(0, 1, 0, 1)
            points(0, 0, 0) = 2; points(0, 0, 1) = 2; points(0, 0, 399) = 2; points(0, 1, 1) = 9; points(0, 1, 399) = 9
            """);
        Run.shows("12: by what is IN FORCE as KNOWN on k", """
            canon(); mark(0, 0, 0, 1); 2 x night(); tape('choir 9'); open(); votes(0, true); close(0) = 0
            points(0, 0, 1) = 2; points(0, 0, 2) = 9; night(); undo(0); points(0, 0, 2) = 9; points(0, 0, 3) = 2
            """);
        Run.shows("12: an ACT that gives nothing", """
            canon(); mark(0, 0, 0, 1); tape('choir 0'); open(); votes(0, true); close(0) = 0; points(0, 0, 0) = 0
            box(0, 5)
            share(0, 0, 0) = 0; night(); count(7) = 5
            """);
    }

    private static void share() {
        Run.shows("13: NONE without the CANON", """
            share(0, 0, 0) = -1; 2 x canon(); share(1, 0, 0) = 0; share(2, 0, 0) = -1; share(-1, 0, 0) = -1
            share(MIN, 0, 0) = -1; share(MAX, 0, 0) = -1
            """);
        Run.shows("13: NONE without the CANON, of a full book", """
            20 x canon(); mark(19, 0, 0, 1); box(0, 5); share(19, 0, 0) = 5; share(20, 0, 0) = -1
            """);
        Run.shows("13: NONE without the DAY", """
            canon(); share(0, 0, 0) = 0; share(0, -1, 0) = -1; share(0, 399, 0) = 0; share(0, 400, 0) = -1
            share(0, MIN, 0) = -1; share(0, MAX, 0) = -1
            """);
        Run.shows("13: NONE without the DAY on which it is KNOWN", """
            canon(); mark(0, 0, 0, 1); box(0, 5); share(0, 0, 0) = 5; share(0, 0, -1) = -1; share(0, 0, 399) = 5
            share(0, 0, 400) = -1; share(0, 0, MIN) = -1; share(0, 0, MAX) = -1
            """);
        Run.shows("13: as KNOWN on a DAY", """
            2 x canon(); mark(0, 0, 0, 1); box(0, 10); 2 x night(); mark(1, 0, 0, 1); share(0, 0, 0) = 10
            share(0, 0, 1) = 10
            share(1, 0, 1) = 0; share(0, 0, 2) = 5; share(1, 0, 2) = 5; share(1, 0, 399) = 5
            """);
        Run.shows("13: a DAY to come has none", "canon(); box(1, 10); share(0, 1, 0) = 0; share(0, 1, 399) = 0");
        Run.shows("13: who has left has SHARES like others", """
            2 x canon(); mark(0, 0, 0, 1); mark(1, 0, 0, 1); box(0, 11); leaves(0) = 0; share(0, 0, 0) = 6
            share(1, 0, 0) = 5
            night(); paid(0, 0) = 6; about(0, 2) = 6; about(0, 0) = 0
            """);
        Run.shows("13: without any POINTS nobody has one", """
            2 x canon(); mark(0, 0, 0, 0); box(0, 11); share(0, 0, 0) = 0; share(1, 0, 0) = 0; night(); count(7) = 11
            """);
    }

    private static void shareParts() {
        Run.shows("II: BOX times POINTS by all POINTS, downwards", """
            2 x canon(); mark(0, 0, 0, 2); mark(1, 0, 0, 1); box(0, 100); share(0, 0, 0) = 34; share(1, 0, 0) = 66
            """);
        Run.shows("II: nothing lacks", """
            2 x canon(); mark(0, 0, 0, 2); mark(1, 0, 0, 1); box(0, 99); share(0, 0, 0) = 33; share(1, 0, 0) = 66
            """);
        Run.shows("II: one coin each to those with POINTS, by their ORDER", """
            5 x canon(); mark(4, 0, 0, 1); mark(2, 0, 0, 1); mark(1, 0, 0, 1); mark(3, 0, 0, 0); box(0, 11)
            share(0, 0, 0) = 0; share(1, 0, 0) = 4; share(2, 0, 0) = 4; share(3, 0, 0) = 0; share(4, 0, 0) = 3
            """);
        Run.shows("II: one coin among many", """
            20 x canon(); mark(19, 0, 0, 1); mark(18, 0, 0, 1); mark(17, 0, 0, 2); box(0, 1)
            share(17, 0, 0) = 1; share(18, 0, 0) = 0; share(19, 0, 0) = 0; share(0, 0, 0) = 0
            """);
        Run.shows("II: all but one coin lacks", """
            3 x canon(); mark(0, 0, 0, 2); mark(1, 0, 0, 2); mark(2, 0, 0, 2); box(0, 2)
            share(0, 0, 0) = 1; share(1, 0, 0) = 1; share(2, 0, 0) = 0
            """);
        Run.shows("II: one alone has all of it", """
            3 x canon(); mark(1, 0, 6, 4); box(0, 100000); share(1, 0, 0) = 100000; share(0, 0, 0) = 0
            share(2, 0, 0) = 0
            """);
        Run.shows("II: the highest BOX times the most POINTS", """
            2 x canon(); mark(0, 0, 0, 1); mark(0, 0, 1, 1); mark(0, 0, 2, 1); mark(0, 0, 3, 1); mark(0, 0, 4, 1)
            mark(0, 0, 5, 1)
            mark(0, 0, 6, 1); mark(1, 0, 0, 2)
            tape('choir 9;hour 0 9;hour 1 9;hour 2 9;hour 3 9;hour 4 9;hour 5 9;hour 6 9'); open(); votes(0, true)
            close(0) = 0
            box(0, 100000); points(0, 0, 0) = 567; points(1, 0, 0) = 9; share(0, 0, 0) = 98438; share(1, 0, 0) = 1562
            """);
        Run.shows("II: what is PAID is the BOX", """
            3 x canon(); mark(0, 0, 0, 1); mark(1, 0, 0, 2); mark(2, 0, 0, 1); box(0, 99999); night()
            about(0, 2) = 40000; about(1, 2) = 20000; about(2, 2) = 39999; count(7) = 0
            """);
    }

    private static void paid() {
        Run.shows("14: of a DAY that is over", """
            canon(); mark(0, 0, 0, 1); box(0, 5); paid(0, 0) = -1; night(); paid(0, 0) = 5; paid(0, 1) = -1; night()
            paid(0, 1) = 0
            """);
        Run.shows("14: NONE without the CANON", """
            night(); paid(0, 0) = -1; 2 x canon(); paid(1, 0) = 0; paid(2, 0) = -1; paid(-1, 0) = -1; paid(MIN, 0) = -1
            paid(MAX, 0) = -1
            """);
        Run.shows("14: NONE without the CANON, of a full book", """
            20 x canon(); mark(19, 0, 0, 1); box(0, 5); night(); paid(19, 0) = 5; paid(20, 0) = -1
            """);
        Run.shows("14: NONE without the DAY", """
            canon(); night(); paid(0, 0) = 0; paid(0, -1) = -1; paid(0, 1) = -1; paid(0, 399) = -1; paid(0, 400) = -1
            paid(0, MIN) = -1; paid(0, MAX) = -1
            """);
        Run.shows("14: the last DAY", """
            canon(); 399 x night(); mark(0, 399, 0, 1); box(399, 5); paid(0, 399) = -1; night(); paid(0, 399) = 5
            paid(0, 400) = -1
            """);
        Run.shows("14: what he was PAID stays, whatever MARKS come", """
            2 x canon(); mark(0, 0, 0, 1); box(0, 10); night(); mark(0, 0, 0, 0); mark(1, 0, 0, 1); paid(0, 0) = 10
            paid(1, 0) = 0
            share(0, 0, 1) = 0; share(1, 0, 1) = 10
            """);
        Run.shows("14: what he was PAID stays, whatever ACTS come or are UNDONE", """
            2 x canon(); mark(0, 0, 0, 1); mark(1, 0, 0, 2); box(0, 12); tape('late 2'); open(); votes(0, true)
            close(0) = 0; night()
            paid(0, 0) = 6; undo(0); paid(0, 0) = 6; share(0, 0, 1) = 8; tape('late 4'); open(); votes(0, true)
            close(0) = 1
            paid(0, 0) = 6; share(0, 0, 1) = 4
            """);
        Run.shows("14: an ACT made and UNDONE on the DAY itself", """
            2 x canon(); mark(0, 0, 0, 1); mark(1, 0, 0, 2); box(0, 12); tape('late 2'); open(); votes(0, true)
            close(0) = 0; undo(0)
            night(); paid(0, 0) = 8; paid(1, 0) = 4
            """);
        Run.shows("14: of one who came later", "night(); canon(); paid(0, 0) = 0");
        Run.shows("14: of one who left", """
            canon(); mark(0, 0, 0, 1); box(0, 5); leaves(0) = 0; night(); paid(0, 0) = 5
            """);
    }

    private static void back() {
        Run.shows("15: 0 without him", """
            back(0) = 0; 2 x canon(); back(2) = 0; back(-1) = 0; back(MIN) = 0; back(MAX) = 0; back(20) = 0
            """);
        Run.shows("15: of all DAYS that are over, not of NOW", """
            canon(); mark(0, 0, 0, 1); box(0, 5); back(0) = 0; night(); back(0) = 0; mark(0, 0, 0, 0); back(0) = -5
            """);
        Run.shows("15: not of NOW, nor of a DAY to come", """
            2 x canon(); box(1, 5); box(2, 9); night(); mark(0, 1, 0, 1); back(0) = 0; share(0, 1, 1) = 5; night()
            back(0) = 0
            """);
        Run.shows("15: his SHARE as KNOWN NOW less what he was PAID", """
            2 x canon(); mark(0, 0, 0, 1); box(0, 10); night(); mark(1, 0, 0, 1); back(0) = -5; back(1) = 5; night()
            back(0) = -5
            mark(0, 0, 0, 0); back(0) = -10; back(1) = 10; mark(0, 0, 0, 1); mark(1, 0, 0, 0); back(0) = 0; back(1) = 0
            """);
        Run.shows("15: together", """
            2 x canon(); box(0, 10); box(1, 20); box(2, 40); mark(0, 0, 0, 1); night(); mark(1, 1, 0, 1); night()
            mark(0, 2, 0, 1); night()
            mark(1, 0, 0, 1); mark(0, 1, 0, 1); mark(1, 2, 0, 1); back(0) = -15; back(1) = 15
            """);
        Run.shows("15: what was the FABRIC's", """
            canon(); box(0, 10); night(); count(7) = 10; mark(0, 0, 0, 1); back(0) = 10; count(7) = 10; about(0, 2) = 0
            """);
        Run.shows("15: what becomes the FABRIC's", """
            canon(); mark(0, 0, 0, 1); box(0, 10); night(); mark(0, 0, 0, 0); back(0) = -10; count(7) = 0
            """);
        Run.shows("15: of one coin", """
            2 x canon(); mark(1, 0, 0, 1); box(0, 1); night(); mark(0, 0, 0, 2); back(0) = 1; back(1) = -1
            """);
        Run.shows("15: of a BOX of 0 coins, and of a DAY without one", """
            canon(); box(0, 0); mark(0, 0, 0, 1); 2 x night(); mark(0, 0, 0, 0); mark(0, 1, 0, 1); back(0) = 0
            """);
        Run.shows("15: by ACTS as KNOWN NOW", """
            2 x canon(); mark(0, 0, 0, 1); mark(1, 0, 0, 2); box(0, 12); night(); tape('late 2'); open(); votes(0, true)
            close(1) = 0
            back(0) = 0; open(); votes(0, true); close(0) = 1; back(0) = 0; tape('late 2'); open(); votes(0, true)
            close(0) = 2
            back(0) = -2; back(1) = 2; night(); undo(2); back(0) = 0
            """);
        Run.shows("15: of one who left", """
            canon(); mark(0, 0, 0, 1); box(0, 5); night(); leaves(0) = 0; mark(0, 0, 0, 0); back(0) = -5
            """);
        Run.shows("15: the last of a full book", """
            20 x canon(); box(0, 5); night(); mark(19, 0, 0, 1); back(19) = 5; back(20) = 0; back(18) = 0
            """);
    }

    private static void theEnd() {
        Run.shows("I: at the end what was told is still told", """
            2 x canon(); box(0, 10); box(399, 20); 399 x night(); mark(0, 399, 6, 1); mark(1, 0, 0, 1); night() = 400
            marked(0, 399, 6, 399) = 1; points(0, 399, 399) = 2; share(0, 399, 399) = 20; paid(0, 399) = 20; back(0) = 0
            back(1) = 10; paid(1, 0) = 0; share(1, 0, 399) = 10; share(1, 0, 398) = 0; holds(399, 399, 0) = 2
            about(0, 2) = 20
            """);
        Run.shows("I: at the end BACK is as KNOWN then", """
            2 x canon(); mark(0, 0, 0, 1); mark(1, 0, 0, 2); box(0, 12); tape('late 2'); open(); votes(0, true)
            close(0) = 0
            399 x night(); undo(0); back(0) = 2; night() = 400; back(0) = 2; back(1) = -2
            """);
        Run.shows("I: at the end an ACT that was not UNDONE is IN FORCE", """
            2 x canon(); mark(0, 0, 0, 1); mark(1, 0, 0, 2); box(0, 12); night(); tape('late 2'); open(); votes(0, true)
            close(0) = 0
            399 x night() = 400; back(0) = -2; back(1) = 2; undo(0) = false; back(0) = -2
            """);
    }
}
