/** The boundary cases of promises 19 to 24, and of what Terms II and IV say of ACTS and VOTES. */
public final class VoteEdgesTest {
    public static void main(String[] args) {
        votes();
        gives();
        givesWhoMay();
        proxy();
        proxyInForce();
        counting();
        whoLeaves();
        close();
        quorum();
        undo();
        holds();
        inForce();
        vote();
        theEnd();
        Check.finish("VoteEdgesTest");
    }

    /** Makes an ACT by the yes of CANON 0, who must be half of those there. */
    private static String act(String text, int from, int number) {
        return "tape('" + text + "'); open() = 0; votes(0, true); close(" + from + ") = " + number + "\n";
    }

    private static void votes() {
        Run.shows("19: a CANON there votes", """
            open(); votes(0, true) = false; 3 x canon(); votes(2, true) = true; votes(3, true) = false
            votes(-1, true) = false
            votes(MIN, true) = false; votes(MAX, false) = false; leaves(1) = 0; votes(1, true) = false; vote(0) = 1
            vote(2) = 1
            """);
        Run.shows("19: the last of a full book", """
            20 x canon(); open(); votes(19, true) = true; votes(20, true) = false; vote(0) = 1; vote(2) = 19
            """);
        Run.shows("19: who comes once it is OPEN", "open(); canon(); votes(0, true) = true; vote(0) = 1");
        Run.shows("19: none is OPEN", """
            canon(); votes(0, true) = false; vote(0) = -1; open(); votes(0, true) = true; close(0) = 0
            votes(0, false) = false
            vote(0) = 1; vote(1) = 0
            """);
        Run.shows("19: none is OPEN behind a FAULT", "canon(); tape('x'); open() = fault 0 0; votes(0, true) = false");
        Run.shows("19: at the end", """
            2 x canon(); 399 x night(); open(); votes(0, true) = true; night(); votes(1, true) = false
            votes(0, false) = false; vote(0) = 1; vote(2) = 1
            """);
        Run.shows("19: the last one holds", """
            canon(); open(); votes(0, true); votes(0, false); vote(0) = 0; vote(1) = 1; votes(0, true); votes(0, true)
            vote(0) = 1; vote(1) = 0
            """);
    }

    private static void gives() {
        Run.shows("20: a CANON there", """
            3 x canon(); open(); leaves(2) = 0; gives(2, 0) = false; gives(3, 0) = false; gives(-1, 0) = false
            gives(MIN, 0) = false
            gives(MAX, 0) = false; gives(1, 0) = true
            """);
        Run.shows("20: another one there", """
            3 x canon(); open(); leaves(2) = 0; gives(0, 2) = false; gives(0, 3) = false; gives(0, -1) = false
            gives(0, MIN) = false
            gives(0, MAX) = false; gives(0, 1) = true
            """);
        Run.shows("20: not to himself", """
            2 x canon(); open(); gives(0, 0) = false; votes(0, true); gives(0, 0) = false; vote(0) = 1
            """);
        Run.shows("20: the last two of a full book", """
            20 x canon(); open(); gives(19, 20) = false; gives(20, 19) = false; gives(19, 18) = true
            """);
        Run.shows("20: none is OPEN", """
            2 x canon(); gives(0, 1) = false; open(); gives(0, 1) = true; votes(1, true); close(0) = 0
            gives(1, 0) = false; gives(0, 1) = false; vote(0) = 2
            """);
        Run.shows("20: at the end", """
            3 x canon(); 399 x night(); open(); gives(0, 1) = true; night(); gives(2, 1) = false; gives(0, 2) = false
            vote(2) = 3
            """);
        Run.shows("20: of a book without CANONS", "open(); gives(0, 1) = false; gives(0, 0) = false");
    }

    private static void givesWhoMay() {
        Run.shows("IV: if nobody has given him theirs", """
            3 x canon(); open(); gives(0, 1) = true; gives(1, 2) = false; votes(0, true); gives(1, 2) = true
            """);
        Run.shows("IV: if nobody has given him theirs, any more", """
            4 x canon(); open(); gives(0, 1) = true; gives(0, 3) = true; gives(1, 2) = true; gives(3, 2) = false
            """);
        Run.shows("IV: to one who has not given his", """
            4 x canon(); open(); gives(0, 1) = true; gives(2, 0) = false; gives(1, 0) = false; votes(0, false)
            gives(2, 0) = true
            """);
        Run.shows("IV: who voted may give it", """
            2 x canon(); open(); votes(0, true); gives(0, 1) = true; vote(0) = 0; vote(2) = 2; votes(1, false)
            vote(1) = 2
            """);
        Run.shows("IV: to one who voted", """
            2 x canon(); open(); votes(1, false); gives(0, 1) = true; vote(1) = 2; vote(2) = 0
            """);
        Run.shows("IV: who gave it to one may give it to another one", """
            4 x canon(); open(); votes(1, true); votes(2, false); gives(0, 1) = true; vote(0) = 2; gives(0, 2) = true
            vote(0) = 1; vote(1) = 2
            gives(1, 3) = true
            """);
        Run.shows("IV: who gave it may vote, then it is his again", """
            3 x canon(); open(); votes(1, true); gives(0, 1) = true; votes(0, false) = true; vote(0) = 1; vote(1) = 1
            votes(1, false); votes(0, true)
            vote(0) = 1; vote(1) = 1; gives(2, 0) = true; vote(0) = 2
            """);
        Run.shows("IV: a refused one keeps what he voted, and whom he gave it", """
            4 x canon(); open(); votes(0, true); gives(0, 0) = false; vote(0) = 1; gives(1, 0); gives(1, 1) = false
            vote(0) = 2; gives(0, 2) = false; vote(0) = 2
            """);
    }

    private static void proxy() {
        Run.shows("IV: fewer than proxy, 2 without an ACT", """
            5 x canon(); open(); gives(1, 0) = true; gives(2, 0) = true; gives(3, 0) = false; gives(3, 4) = true
            votes(2, true); gives(2, 4) = true
            gives(1, 4) = false
            """);
        Run.shows("IV: proxy 0", "canon()\n" + act("proxy 0", 0, 0) + """
            canon(); open(); gives(0, 1) = false; gives(1, 0) = false
            """);
        Run.shows("IV: proxy 1", "canon()\n" + act("proxy 1", 0, 0) + """
            2 x canon(); open(); gives(1, 0) = true; gives(2, 0) = false; votes(1, true); gives(2, 0) = true
            """);
        StringBuilder nine = new StringBuilder("canon()\n" + act("proxy 9", 0, 0) + "11 x canon(); open()\n");
        for (int canon = 1; canon <= 9; canon++) {
            nine.append("gives(" + canon + ", 0) = true\n");
        }
        Run.shows("IV: proxy 9", nine + """
            gives(10, 0) = false; votes(0, true); vote(0) = 10; votes(9, false); gives(10, 0) = true
            gives(11, 0) = false; vote(0) = 10
            """);
        Run.shows("IV: fewer others than proxy: he who gives is none of them", """
            4 x canon(); open(); gives(1, 0) = true; gives(2, 0) = true; gives(2, 0) = true; gives(3, 0) = false
            """);
        Run.shows("IV: each has his own", """
            6 x canon(); open(); gives(2, 0) = true; gives(3, 0) = true; gives(4, 1) = true; gives(5, 1) = true
            vote(2) = 6
            """);
        Run.shows("IV: who gave it to another one is free for others", """
            5 x canon(); open(); gives(1, 0); gives(2, 0); gives(3, 0) = false; gives(2, 4) = true; gives(3, 0) = true
            """);
    }

    private static void proxyInForce() {
        Run.shows("IV: proxy of what is IN FORCE on NOW", "canon()\n" + act("proxy 1", 1, 0) + """
            3 x canon(); open(); gives(1, 0) = true; gives(2, 0) = true; night(); gives(3, 0) = false; votes(2, true)
            gives(2, 0) = false
            """);
        Run.shows("IV: proxy of what is IN FORCE, not of what is voted on", """
            2 x canon(); tape('proxy 0'); open(); gives(1, 0) = true
            """);
        Run.shows("IV: proxy as KNOWN NOW", "canon()\n" + act("proxy 0", 0, 0) + """
            canon(); open(); gives(1, 0) = false; undo(0); gives(1, 0) = true
            """);
        Run.shows("IV: what was given stays given, if proxy is less then", "canon()\n" + act("proxy 0", 1, 0) + """
            canon(); open(); gives(1, 0) = true; night(); votes(0, true); vote(0) = 2
            """);
        Run.shows("IV: proxy on the last DAY", "canon()\n" + act("proxy 0", 399, 0) + """
            canon(); open(); 398 x night(); gives(1, 0) = true; votes(1, true); night(); gives(1, 0) = false
            """);
    }

    private static void counting() {
        Run.shows("IV: it counts as that one's does", """
            3 x canon(); open(); gives(0, 2); gives(1, 2); vote(2) = 3; votes(2, true); vote(0) = 3; vote(2) = 0
            votes(2, false); vote(1) = 3; vote(0) = 0
            """);
        Run.shows("24: those there who have voted by nobody", """
            4 x canon(); open(); vote(2) = 4; votes(0, true); vote(2) = 3; gives(1, 2); vote(2) = 3; gives(3, 0)
            vote(2) = 2; leaves(2) = 0; vote(2) = 1; leaves(1) = 0; vote(2) = 0
            """);
        Run.shows("24: who comes has voted by nobody", """
            open(); vote(2) = 0; canon(); vote(2) = 1; votes(0, false); vote(2) = 0; canon(); vote(2) = 1
            """);
        Run.shows("24: all twenty", """
            20 x canon(); open(); vote(2) = 20; votes(19, true); votes(0, false); vote(0) = 1; vote(1) = 1; vote(2) = 18
            """);
    }

    private static void whoLeaves() {
        Run.shows("IV: who leaves has no vote any more", """
            2 x canon(); open(); votes(0, true); votes(1, false); leaves(0) = 0; vote(0) = 0; vote(1) = 1; vote(2) = 0
            """);
        Run.shows("IV: votes given to him are nobody's", """
            4 x canon(); open(); votes(0, true); gives(1, 0); gives(2, 0); vote(0) = 3; leaves(0) = 0; vote(0) = 0
            vote(2) = 3; votes(1, true); vote(0) = 1
            """);
        Run.shows("IV: nobody's, not his again", """
            3 x canon(); open(); votes(1, true); votes(0, true); gives(1, 0); leaves(0) = 0; vote(0) = 0; vote(2) = 2
            gives(2, 1) = false
            gives(1, 2) = true; votes(2, false); vote(1) = 2
            """);
        Run.shows("IV: nobody's, until he votes", """
            3 x canon(); open(); gives(1, 0); leaves(0) = 0; votes(1, true) = true; vote(0) = 1; gives(2, 1) = true
            vote(0) = 2
            """);
        Run.shows("IV: who leaves has given nothing any more", """
            4 x canon(); open(); gives(1, 0); gives(2, 0); gives(3, 0) = false; leaves(1) = 0; gives(3, 0) = true
            """);
        Run.shows("IV: who leaves has given nothing any more, so that one may give his", """
            3 x canon(); open(); gives(1, 0); gives(0, 2) = false; leaves(1) = 0; gives(0, 2) = true
            """);
        Run.shows("IV: those there are fewer", """
            5 x canon(); open(); votes(0, true); votes(1, true); leaves(4) = 0; close(0) = 0
            """);
        Run.shows("IV: those there are more", """
            4 x canon(); open(); votes(0, true); votes(1, true); canon(); close(0) = -2
            """);
        Run.shows("24: who leaves once it is CLOSED changes nothing", """
            2 x canon(); open(); votes(0, true); gives(1, 0); close(0) = 0; leaves(0) = 0; canon(); vote(0) = 2
            vote(1) = 0; vote(2) = 0
            """);
    }

    private static void close() {
        Run.shows("21: none is OPEN", """
            canon(); close(0) = -1; open(); votes(0, true); close(0) = 0; close(0) = -1; count(5) = 1
            """);
        Run.shows("21: no such DAY", """
            canon(); open(); votes(0, true); close(-1) = -1; close(400) = -1; close(MIN) = -1; close(MAX) = -1
            vote(3) = 1; vote(0) = 1; close(0) = 0
            """);
        Run.shows("21: from a DAY on, the first", "canon()\n" + act("choir 7", 0, 0) + """
            holds(0, 0, 0) = 7; holds(399, 0, 0) = 7
            """);
        Run.shows("21: from a DAY on, the last", "canon()\n" + act("choir 7", 399, 0) + """
            holds(398, 399, 0) = 2; holds(399, 399, 0) = 7
            """);
        Run.shows("21: from a DAY that is over", "canon(); 5 x night()\n" + act("choir 7", 0, 0) + """
            holds(0, 5, 0) = 7; holds(0, 4, 0) = 2
            """);
        Run.shows("21: -2, it has not PASSED, and none is OPEN then", """
            canon(); tape('choir 7'); open(); close(0) = -2; vote(3) = 0; close(0) = -1; count(5) = 0
            holds(0, 0, 0) = 2; votes(0, true) = false; open() = 0
            """);
        Run.shows("21: yes is more than no, by one", """
            3 x canon(); open(); votes(0, true); votes(1, true); votes(2, false); close(0) = 0
            """);
        Run.shows("21: yes is as much as no", """
            2 x canon(); open(); votes(0, true); votes(1, false); close(0) = -2; count(5) = 0
            """);
        Run.shows("21: yes is less than no", "canon(); open(); votes(0, false); close(0) = -2");
        Run.shows("21: nobody is there", """
            open(); close(0) = -2; canon(); open(); leaves(0) = 0; close(0) = -2; vote(2) = 0
            """);
        Run.shows("21: the number of the ACT", "canon()\n" + act("", 0, 0) + "open(); close(0) = -2\n" + act("", 0, 1) + "undo(1)\n" + act("", 0, 2) + """
            count(5) = 3
            """);
        Run.shows("21: the end", """
            canon(); 399 x night(); open(); votes(0, true); close(399) = 0; open(); votes(0, true); night()
            close(0) = -1; vote(3) = 1; count(5) = 1
            """);
    }

    private static void quorum() {
        Run.shows("21: at least quorum hundredths, 50 without an ACT", """
            4 x canon(); open(); votes(0, true); close(0) = -2; open(); votes(0, true); votes(1, true); close(0) = 0
            """);
        Run.shows("21: half of five is not enough with two", """
            5 x canon(); open(); votes(0, true); votes(1, true); close(0) = -2; open(); votes(0, true); votes(1, true)
            votes(2, true); close(0) = 0
            """);
        Run.shows("21: yes or no", """
            6 x canon(); open(); votes(0, true); votes(1, true); votes(2, false); close(0) = 0
            """);
        Run.shows("21: those whose vote counts, by proxies too", """
            4 x canon(); open(); gives(1, 0); votes(0, true); close(0) = 0; vote(0) = 2
            """);
        Run.shows("21: a vote given to one who has none counts not", """
            4 x canon(); open(); gives(1, 2); votes(0, true); close(0) = -2; vote(2) = 3
            """);
        Run.shows("21: quorum 0", "canon()\n" + act("quorum 0", 0, 0) + """
            19 x canon(); open(); votes(0, true); close(0) = 1; open(); close(0) = -2
            """);
        Run.shows("21: quorum 100", "canon()\n" + act("quorum 100", 0, 0) + """
            2 x canon(); open(); votes(0, true); votes(1, true); close(0) = -2; open(); votes(0, true); votes(1, true)
            votes(2, false); close(0) = 1
            """);
        Run.shows("21: quorum 5 of twenty", "canon()\n" + act("quorum 5", 0, 0) + """
            19 x canon(); open(); votes(0, true); close(0) = 1
            """);
        Run.shows("21: quorum 6 of twenty", "canon()\n" + act("quorum 6", 0, 0) + """
            19 x canon(); open(); votes(0, true); close(0) = -2
            """);
        Run.shows("21: quorum 33 of three", "canon()\n" + act("quorum 33", 0, 0) + """
            2 x canon(); open(); votes(0, true); close(0) = 1
            """);
        Run.shows("21: quorum 34 of three", "canon()\n" + act("quorum 34", 0, 0) + """
            2 x canon(); open(); votes(0, true); close(0) = -2
            """);
        StringBuilder eighteen = new StringBuilder("18 x canon(); open()\n");
        for (int canon = 0; canon < 18; canon++) {
            eighteen.append("votes(" + canon + ", true)\n");
        }
        Run.shows("21: quorum 94 of nineteen, 18 voted", "canon()\n" + act("quorum 94", 0, 0) + eighteen + """
            close(0) = 1
            """);
        Run.shows("21: quorum 95 of nineteen, 18 voted", "canon()\n" + act("quorum 95", 0, 0) + eighteen + """
            close(0) = -2
            """);
        Run.shows("21: quorum of what is IN FORCE on NOW", "canon()\n" + act("quorum 100", 1, 0) + """
            canon(); open(); votes(0, true); close(0) = 1; night(); open(); votes(0, true); close(0) = -2
            """);
        Run.shows("21: quorum as KNOWN NOW", "canon()\n" + act("quorum 100", 0, 0) + """
            canon(); open(); votes(0, true); undo(0); close(0) = 1
            """);
        Run.shows("21: quorum of what is IN FORCE, not of what is voted on", """
            2 x canon(); tape('quorum 100'); open(); votes(0, true); close(0) = 0
            """);
    }

    private static void undo() {
        Run.shows("22: none such", """
            undo(0) = false; canon(); open(); undo(0) = false; votes(0, true); close(0) = 0; undo(1) = false
            undo(-1) = false; undo(MIN) = false
            undo(MAX) = false; undo(9) = false; undo(10) = false; undo(0) = true
            """);
        Run.shows("22: UNDONE already", "canon()\n" + act("choir 7", 0, 0) + """
            undo(0) = true; undo(0) = false; night(); undo(0) = false; holds(0, 0, 0) = 2
            """);
        StringBuilder ten = new StringBuilder("canon()\n");
        for (int number = 0; number < 10; number++) {
            ten.append("open(); votes(0, true); close(" + number + ") = " + number + "\n");
        }
        Run.shows("22: the last of ten", ten + """
            undo(10) = false; holds(9, 0, 6) = 9; undo(9) = true; holds(9, 0, 6) = 8; undo(9) = false; undo(0) = true
            holds(0, 0, 6) = -1
            """);
        Run.shows("22: the end", "canon()\n" + act("", 0, 0) + act("choir 7", 0, 1) + """
            399 x night(); undo(0) = true; night(); undo(1) = false; holds(0, 399, 0) = 7
            """);
        Run.shows("II: as KNOWN on that DAY and later it never was", "canon()\n" + act("choir 7", 0, 0) + """
            3 x night(); undo(0); holds(0, 2, 0) = 7; holds(0, 3, 0) = 2; holds(0, 399, 0) = 2; holds(399, 2, 6) = 0
            holds(399, 3, 6) = -1
            """);
        Run.shows("II: UNDONE on the DAY on which it was made", "canon(); night()\n" + act("choir 7", 0, 0) + """
            undo(0); holds(0, 0, 6) = -1; holds(0, 1, 6) = -1; holds(0, 2, 6) = -1
            """);
        Run.shows("II: UNDONE on the last DAY", "canon()\n" + act("choir 7", 0, 0) + """
            399 x night(); undo(0); holds(0, 398, 0) = 7; holds(0, 399, 0) = 2
            """);
        Run.shows("II: UNDONE ahead of its DAY", "canon()\n" + act("choir 7", 5, 0) + """
            night(); undo(0); holds(5, 0, 0) = 7; holds(5, 1, 0) = 2; 4 x night(); holds(5, 5, 0) = 2
            """);
    }

    private static void holds() {
        Run.shows("23: without an ACT", """
            holds(0, 0, 0) = 2; holds(0, 0, 1) = 1; holds(0, 0, 2) = 2; holds(0, 0, 3) = 1; holds(0, 0, 4) = 50
            holds(0, 0, 5) = 2; holds(0, 0, 6) = -1
            holds(0, 0, 10) = 1; holds(0, 0, 13) = 1; holds(0, 0, 16) = 1; holds(399, 399, 16) = 1
            """);
        Run.shows("23: what 0 to 6", "canon()\n" + act("choir 9;late 8;ill 7;business 6;quorum 5;proxy 4", 0, 0) + """
            holds(0, 0, 0) = 9; holds(0, 0, 1) = 8; holds(0, 0, 2) = 7; holds(0, 0, 3) = 6; holds(0, 0, 4) = 5
            holds(0, 0, 5) = 4; holds(0, 0, 6) = 0
            """);
        Run.shows("23: what 10 to 16", "canon()\n" + act("hour 0 9;hour 1 8;hour 2 7;hour 3 6;hour 4 5;hour 5 4;hour 6 3", 0, 0) + """
            holds(0, 0, 10) = 9; holds(0, 0, 11) = 8; holds(0, 0, 12) = 7; holds(0, 0, 13) = 6; holds(0, 0, 14) = 5
            holds(0, 0, 15) = 4; holds(0, 0, 16) = 3
            """);
        Run.shows("23: NONE for another what", "canon()\n" + act("hour 0 9;hour 6 3", 0, 0) + """
            holds(0, 0, -1) = -1; holds(0, 0, 7) = -1; holds(0, 0, 8) = -1; holds(0, 0, 9) = -1; holds(0, 0, 17) = -1
            holds(0, 0, MIN) = -1; holds(0, 0, MAX) = -1
            """);
        Run.shows("23: NONE without the DAY", """
            holds(-1, 0, 0) = -1; holds(400, 0, 0) = -1; holds(399, 0, 0) = 2; holds(MIN, 0, 0) = -1
            holds(MAX, 0, 6) = -1
            """);
        Run.shows("23: NONE without the DAY on which it is KNOWN", """
            holds(0, -1, 0) = -1; holds(0, 400, 0) = -1; holds(0, 399, 0) = 2; holds(0, MIN, 0) = -1
            holds(0, MAX, 6) = -1
            """);
        Run.shows("23: at the end", "canon()\n" + act("choir 7", 399, 0) + """
            400 x night(); holds(399, 399, 0) = 7; holds(400, 399, 0) = -1; holds(399, 400, 0) = -1
            """);
        Run.shows("23: what is voted on does not hold", """
            tape('choir 7'); open(); holds(0, 0, 0) = 2; holds(0, 0, 6) = -1
            """);
    }

    private static void inForce() {
        Run.shows("II: KNOWN from the DAY on which they were made", "canon(); 3 x night()\n" + act("choir 7", 0, 0) + """
            holds(0, 2, 0) = 2; holds(0, 3, 0) = 7; holds(0, 399, 0) = 7
            """);
        Run.shows("II: made on the last DAY", "canon(); 399 x night()\n" + act("choir 7", 0, 0) + """
            holds(0, 398, 0) = 2; holds(0, 399, 0) = 7; holds(399, 399, 0) = 7
            """);
        Run.shows("II: with a DAY not behind d", "canon()\n" + act("choir 7", 5, 0) + """
            holds(4, 0, 0) = 2; holds(5, 0, 0) = 7; holds(6, 0, 0) = 7
            """);
        Run.shows("II: that with the latest DAY, told first", "canon()\n" + act("choir 7", 5, 0) + act("choir 8", 4, 1) + """
            holds(3, 0, 6) = -1; holds(4, 0, 6) = 1; holds(5, 0, 6) = 0; holds(399, 0, 6) = 0
            """);
        Run.shows("II: that with the latest DAY, told last", "canon()\n" + act("choir 7", 4, 0) + act("choir 8", 5, 1) + """
            holds(4, 0, 6) = 0; holds(5, 0, 6) = 1
            """);
        Run.shows("II: of several the last one made", "canon()\n" + act("choir 7", 4, 0) + act("choir 8", 4, 1) + act("choir 9", 4, 2) + """
            holds(4, 0, 6) = 2; undo(2); holds(4, 0, 6) = 1; undo(0); holds(4, 0, 6) = 1; undo(1); holds(4, 0, 6) = -1
            holds(4, 0, 0) = 2
            """);
        Run.shows("II: of several the last one made that is KNOWN", "canon()\n" + act("choir 7", 4, 0) + "night()\n" + act("choir 8", 4, 1) + """
            holds(4, 0, 6) = 0; holds(4, 1, 6) = 1; night(); undo(1); holds(4, 1, 6) = 1; holds(4, 2, 6) = 0
            """);
        Run.shows("II: each stands alone", "canon()\n" + act("choir 7;hour 3 5", 0, 0) + act("late 8", 0, 1) + """
            holds(0, 0, 0) = 2; holds(0, 0, 13) = 1; holds(0, 0, 1) = 8; undo(1); holds(0, 0, 0) = 7
            holds(0, 0, 13) = 5; holds(0, 0, 1) = 1
            """);
        Run.shows("II: an ACT of blanks alone: all as without", "canon()\n" + act("choir 7", 0, 0) + act("   ", 0, 1) + """
            holds(0, 0, 0) = 2; holds(0, 0, 6) = 1
            """);
        StringBuilder ten = new StringBuilder("canon()\n");
        for (int number = 0; number < 10; number++) {
            ten.append(act("choir " + number, 9 - number, number));
        }
        Run.shows("II: ACTS 0 to 9", ten + """
            holds(0, 0, 6) = 9; holds(0, 0, 0) = 9; holds(9, 0, 6) = 0; holds(9, 0, 0) = 0; holds(4, 0, 0) = 5
            """);
    }

    private static void vote() {
        Run.shows("24: NONE ahead of any", """
            canon(); vote(0) = -1; vote(1) = -1; vote(2) = -1; vote(3) = -1; tape('x'); open() = fault 0 0; vote(3) = -1
            open(); vote(3) = 1
            """);
        Run.shows("24: NONE for another what", """
            vote(4) = -1; vote(-1) = -1; open(); vote(4) = -1; vote(-1) = -1; vote(MIN) = -1; vote(MAX) = -1
            close(0) = -2; vote(4) = -1; vote(-1) = -1
            """);
        Run.shows("24: as they count now", """
            2 x canon(); open(); vote(0) = 0; vote(1) = 0; vote(2) = 2; votes(0, true); vote(0) = 1; vote(1) = 0
            vote(2) = 1; votes(1, false); vote(1) = 1; vote(2) = 0
            """);
        Run.shows("24: or as it was CLOSED", """
            3 x canon(); open(); votes(0, true); votes(1, false); close(0) = -2; leaves(0) = 0; leaves(2) = 0; canon()
            vote(0) = 1; vote(1) = 1; vote(2) = 1; vote(3) = 0
            """);
        Run.shows("24: the one that is OPEN, not the last", """
            2 x canon(); open(); votes(0, true); close(0) = 0; vote(0) = 1; open(); vote(0) = 0; vote(2) = 2
            vote(3) = 1; votes(1, false); vote(1) = 1
            """);
        Run.shows("24: without CANONS", "open(); vote(0) = 0; vote(1) = 0; vote(2) = 0; vote(3) = 1");
        Run.shows("24: a night changes nothing of it", """
            2 x canon(); open(); votes(0, true); gives(1, 0); night(); vote(0) = 2; vote(3) = 1; close(0) = 0
            """);
    }

    private static void theEnd() {
        Run.shows("I: at the end nothing is done any more, and what was is still told", """
            2 x canon(); open(); votes(0, true); 400 x night(); votes(1, true) = false; gives(1, 0) = false
            close(0) = -1; close(399) = -1
            open() = -1; vote(0) = 1; vote(2) = 1; vote(3) = 1
            """);
    }
}
