/** The boundary cases of promises 16 to 18, and of what Terms II says of the texts of STATUTES and their FAULTS. */
public final class TapeEdgesTest {
    private static final String[] WORDS = {"choir", "late", "ill", "business", "quorum", "proxy"};
    private static final int[] WITHOUT = {2, 1, 2, 1, 50, 2};
    private static final int HOURS = 7;

    public static void main(String[] args) {
        feed();
        feedOrder();
        end();
        open();
        openRefused();
        numbersAsTold();
        hoursAsTold();
        digits();
        everyByte();
        clauses();
        blanks();
        ends();
        twice();
        firstAlongIt();
        mostBytes();
        Check.finish("TapeEdgesTest");
    }

    private static void feed() {
        Run.shows("16: how many it has", "feed(1, 2, 3, 4, 5) = 20; feed(1, 2, 3, 4, 5) = 40; count(6) = 40");
        Run.shows("16: no more than 200", """
            9 x feed(1, 2, 3, 4, 5) = 180; feed(1, 2, 3, 4, 5) = 200; feed(1, 2, 3, 4, 5) = -1; feed(0, 0, 0, 0, 0) = -1
            count(6) = 200
            """);
        Run.shows("16: of 180 bytes it goes, of 181 none comes", """
            10 x feed(538976288, 538976288, 538976288, 538976288, 538976288); end(181); feed(0, 0, 0, 0, 0) = -1
            count(6) = 181
            end(180); feed(538976288, 538976288, 538976288, 538976288, 538976288) = 200; open() = 0
            """);
        Run.shows("16: behind what end() has left, on any byte", """
            feed(1667788649, 1914712352, 1, 1, 1); end(8); feed(996958580, 1696610304, 1, 1, 1) = 28; end(15) = 15
            count(6) = 15
            canon(); open() = 0; votes(0, true); close(0) = 0; holds(0, 0, 0) = 1; holds(0, 0, 1) = 8
            """);
        Run.shows("16: while a VOTE is OPEN, and what is voted on stays", """
            canon(); tape('choir 7'); open(); tape('choir 8'); end(0); votes(0, true); close(0) = 0; holds(0, 0, 0) = 7
            """);
        Run.shows("16: behind open() it begins anew", "tape('choir 1'); open(); feed(1, 2, 3, 4, 5) = 20");
        Run.shows("16: it names no end of the DAYS", """
            400 x night(); feed(1, 2, 3, 4, 5) = 20; count(6) = 20; end(7) = 7; end(8) = -1; feed(1, 1, 1, 1, 1) = 27
            """);
    }

    /** A byte that can't stand anywhere tells by its FAULT in which place it came. */
    private static void feedOrder() {
        for (int place = 0; place < 20; place++) {
            int[] numbers = {0x20202020, 0x20202020, 0x20202020, 0x20202020, 0x20202020};
            int shift = 24 - 8 * (place % 4);
            numbers[place / 4] = 0x20202020 & ~(255 << shift) | 200 << shift;
            StringBuilder call = new StringBuilder("feed(");
            for (int i = 0; i < numbers.length; i++) {
                call.append(i == 0 ? "" : ", ").append(numbers[i]);
            }
            Run.shows("16: of each number the highest first", call + ") = 20; open() = fault " + place + " 0");
        }
        Run.shows("16: -1 is four bytes of 255", "feed(-1, -1, -1, -1, -1) = 20; open() = fault 0 0");
        Run.shows("16: MIN is a byte of 128, then zeros", "feed(538976288, MIN, MAX, -1, 0) = 20; end(4); open() = 0");
    }

    private static void end() {
        Run.shows("17: its first n bytes alone: n", """
            canon(); tape('choir 1;late 8'); end(14) = 14; end(7) = 7; count(6) = 7; open(); votes(0, true)
            close(0) = 0
            holds(0, 0, 0) = 1; holds(0, 0, 1) = 1
            """);
        Run.shows("17: NONE if it has not so many", """
            end(1) = -1; end(0) = 0; feed(1, 1, 1, 1, 1); end(21) = -1; end(MAX) = -1; end(200) = -1; count(6) = 20
            end(20) = 20
            end(19) = 19; end(20) = -1; count(6) = 19
            """);
        Run.shows("17: NONE if n is below 0", """
            end(-1) = -1; feed(1, 1, 1, 1, 1); end(-1) = -1; end(MIN) = -1; count(6) = 20; end(0) = 0; end(-1) = -1
            """);
        Run.shows("17: of the full TAPE", """
            10 x feed(1, 1, 1, 1, 1); end(201) = -1; end(200) = 200; end(199) = 199; end(200) = -1; count(6) = 199
            """);
        Run.shows("17: what was cut off does not come again", """
            canon(); tape('choir 1;late 8'); end(8); feed(1768713248, 0, 0, 0, 0); end(12); open() = fault 12 0
            """);
    }

    private static void open() {
        Run.shows("18: 0, and the TAPE is empty then", "tape('choir 1'); open() = 0; count(6) = 0; vote(3) = 1");
        Run.shows("18: of an empty TAPE", """
            canon(); open() = 0; vote(3) = 1; votes(0, true); close(0) = 0; holds(0, 0, 0) = 2; holds(0, 0, 6) = 0
            """);
        Run.shows("18: -2 - its FAULT, and no VOTE is OPEN", """
            canon(); tape('choir'); open() = fault 5 0; vote(3) = -1; votes(0, true) = false; gives(0, 0) = false
            close(0) = -1; count(5) = 0
            """);
        Run.shows("18: a FAULT leaves the VOTE that was last as it was", """
            2 x canon(); open(); votes(0, true); votes(1, false); close(0) = -2; tape('x'); open() = fault 0 0
            vote(0) = 1; vote(1) = 1; vote(2) = 0; vote(3) = 0
            """);
        Run.shows("18: behind a FAULT another may be OPENED, and nothing of the faulty text holds", """
            canon(); tape('choir 7;hour 1 8;late x'); open() = fault 22 0; tape('choir 7;late 1'); open() = 0
            votes(0, true); close(0) = 0
            holds(0, 0, 0) = 7; holds(0, 0, 11) = 1; holds(0, 0, 1) = 1
            """);
        Run.shows("18: the votes begin anew", """
            3 x canon(); open(); votes(0, true); votes(1, false); gives(2, 0); close(0) = 0; open(); vote(0) = 0
            vote(1) = 0; vote(2) = 3
            gives(1, 2) = true; gives(0, 2) = true
            """);
    }

    private static void openRefused() {
        Run.shows("18: NONE: one is OPEN", """
            canon(); tape('choir 7'); open(); tape('choir 8'); open() = -1; count(6) = 7; votes(0, true); close(0) = 0
            holds(0, 0, 0) = 7
            open() = 0; votes(0, true); close(0) = 1; holds(0, 0, 0) = 8
            """);
        Run.shows("18: NONE: one is OPEN, though the text is faulty", """
            tape('choir 7'); open(); tape('choir'); open() = -1; count(6) = 5
            """);
        StringBuilder nine = new StringBuilder("canon()\n");
        for (int act = 0; act < 9; act++) {
            nine.append("open() = 0; votes(0, true); close(0) = ").append(act).append('\n');
        }
        Run.shows("18: NONE: 10 ACTS", nine + """
            count(5) = 9; open() = 0; votes(0, true); close(0) = 9; count(5) = 10; tape('choir 7'); open() = -1
            count(6) = 7
            undo(9); undo(0); open() = -1; count(6) = 7; vote(3) = 0; close(0) = -1; count(5) = 10; holds(0, 0, 6) = 8
            """);
        Run.shows("18: NONE: 10 ACTS, though the text is faulty", nine + """
            open(); votes(0, true); close(0) = 9; tape('choir'); open() = -1; count(6) = 5
            """);
        Run.shows("18: of 9 ACTS the VOTE that fails makes none", nine + """
            open(); close(0) = -2; count(5) = 9; open() = 0; votes(0, true); close(0) = 9
            """);
        Run.shows("18: NONE: the end", """
            399 x night(); open() = 0; close(0) = -2; tape('choir 7'); night(); open() = -1; count(6) = 7; vote(3) = 0
            """);
        Run.shows("18: NONE: the end, though the text is faulty", """
            tape('choir'); 400 x night(); open() = -1; count(6) = 5
            """);
    }

    private static void alone(String clause, int what, int number) {
        StringBuilder rows = new StringBuilder("canon(); tape('" + clause + "'); open() = 0; votes(0, true); close(0) = 0\n");
        for (int i = 0; i < WITHOUT.length; i++) {
            rows.append("holds(0, 0, " + i + ") = " + (i == what ? number : WITHOUT[i]) + "\n");
        }
        for (int hour = 0; hour < HOURS; hour++) {
            rows.append("holds(0, 0, " + (10 + hour) + ") = " + (10 + hour == what ? number : 1) + "\n");
        }
        Run.shows("II: " + clause + ", all else as without", rows.toString());
    }

    private static void numbersAsTold() {
        alone("", -1, 0);
        alone("   ", -1, 0);
        for (int what = 0; what < WORDS.length; what++) {
            String word = WORDS[what];
            int most = word.equals("quorum") ? 100 : 9;
            alone(word + " 0", what, 0);
            alone(word + " " + most, what, most);
            Run.reads("II: " + word + " of one too many", word + " " + (most + 1), "fault " + (word.length() + 1) + " 1");
            Run.reads("II: " + word + " of 999", word + " 999", "fault " + (word.length() + 1) + " 1");
            Run.reads("II: " + word + " of -1", word + " -1", "fault " + (word.length() + 1) + " 0");
        }
    }

    private static void hoursAsTold() {
        for (int hour = 0; hour < HOURS; hour++) {
            alone("hour " + hour + " 0", 10 + hour, 0);
            alone("hour " + hour + " 9", 10 + hour, 9);
            Run.reads("II: hour of one too many", "hour " + hour + " 10", "fault 7 1");
        }
        Run.reads("II: hour 7", "hour 7 1", "fault 5 1");
        Run.reads("II: hour 8", "hour 8 1", "fault 5 1");
        Run.reads("II: hour 10", "hour 10 1", "fault 5 1");
        Run.reads("II: hour 999", "hour 999 1", "fault 5 1");
        Run.reads("II: hour -1", "hour -1 1", "fault 5 0");
    }

    private static void digits() {
        String[] right = {"choir 9", "choir 09", "choir 009", "choir 000", "quorum 7", "quorum 07", "quorum 007", "quorum 99",
            "quorum 100", "hour 6 9", "hour 06 09", "hour 006 009", "hour 000 000"};
        for (String text : right) {
            Run.reads("II: NUMBERS of 1 to 3 digits, " + text, text, "0");
        }
        Run.reads("II: of more digits", "choir 0009", "fault 6 1");
        Run.reads("II: of more digits", "choir 0000", "fault 6 1");
        Run.reads("II: of more digits", "quorum 0100", "fault 7 1");
        Run.reads("II: of more digits", "quorum 1000", "fault 7 1");
        Run.reads("II: of more digits", "hour 0006 1", "fault 5 1");
        Run.reads("II: of more digits", "hour 6 0001", "fault 7 1");
        Run.reads("II: a NUMBER that wraps round to 1", "choir 4294967297", "fault 6 1");
        Run.reads("II: a NUMBER that wraps round to 1", "choir 18446744073709551617", "fault 6 1");
        Run.reads("II: a NUMBER that wraps round to 0", "quorum 4294967296", "fault 7 1");
        Run.reads("II: a NUMBER below 0 once it wraps", "choir 2147483648", "fault 6 1");
        Run.reads("II: as far as digits go on", "hour 12", "fault 5 1");
        Run.reads("II: as far as digits go on", "hour 1234 5", "fault 5 1");
        Run.reads("II: no digit", "choir", "fault 5 0");
    }

    /** Each of the 256 bytes where nothing, a WORD, a NUMBER and a ';' stand ahead of it. */
    private static void everyByte() {
        for (char b = 0; b < 256; b++) {
            String at = "II: the byte " + (int) b;
            boolean isDigit = b >= '0' && b <= '9';
            boolean isLetter = b >= 'a' && b <= 'z';
            Run.reads(at + " alone", "" + b, b == ' ' ? "0" : "fault 0 0");
            Run.reads(at + " behind a WORD", "choir" + b,
                isDigit ? "0" : isLetter ? "fault 0 0" : b == ' ' ? "fault 6 0" : "fault 5 0");
            Run.reads(at + " in place of a NUMBER", "choir " + b, isDigit ? "0" : b == ' ' ? "fault 7 0" : "fault 6 0");
            Run.reads(at + " behind a NUMBER", "choir 1" + b,
                b == ' ' ? "0" : isDigit ? "fault 6 1" : b == ';' ? "fault 8 0" : "fault 7 0");
            Run.reads(at + " behind ';'", "choir 1;" + b, b == ' ' ? "fault 9 0" : "fault 8 0");
            Run.reads(at + " behind h", "hour 1 " + b, isDigit ? "0" : b == ' ' ? "fault 8 0" : "fault 7 0");
            Run.reads(at + " in a WORD", "cho" + b + "ir 1", "fault 0 0");
        }
    }

    private static void clauses() {
        Run.reads("II: each once, all thirteen", "proxy 9;hour 6 1;quorum 0;hour 5 1;business 1;hour 4 1;ill 1;hour 3 1;"
            + "late 1;hour 2 1;choir 1;hour 1 1;hour 0 1", "0");
        Run.reads("II: a WORD short by a letter", "choi 1", "fault 0 0");
        Run.reads("II: a WORD long by a letter", "choirs 1", "fault 0 0");
        Run.reads("II: a WORD short of its first letter", "hoir 1", "fault 0 0");
        Run.reads("II: two WORDS in one", "choirlate 1", "fault 0 0");
        Run.reads("II: a great letter at first", "Choir 1", "fault 0 0");
        Run.reads("II: a great letter at last", "choiR 1", "fault 0 0");
        for (String word : WORDS) {
            Run.reads("II: a WORD of all but its last letter", word.substring(0, word.length() - 1) + " 1", "fault 0 0");
            Run.reads("II: a WORD of one letter more", word + "e 1", "fault 0 0");
            for (int i = 0; i < word.length(); i++) {
                String wrong = word.substring(0, i) + "z" + word.substring(i + 1);
                Run.reads("II: a WORD with one letter wrong", wrong + " 1", "fault 0 0");
            }
        }
        Run.reads("II: hours", "hours 1 1", "fault 0 0");
        Run.reads("II: hou", "hou 1 1", "fault 0 0");
        Run.reads("II: four", "four 1 1", "fault 0 0");
        Run.reads("II: a NUMBER in place of a WORD", "1 choir", "fault 0 0");
        Run.reads("II: no ';' between", "choir 1 late 2", "fault 8 0");
        Run.reads("II: a second NUMBER", "choir 1 2", "fault 8 0");
        Run.reads("II: a third NUMBER of hour", "hour 1 2 3", "fault 9 0");
        Run.reads("II: ';' at first", ";choir 1", "fault 0 0");
        Run.reads("II: ';' alone", ";", "fault 0 0");
        Run.reads("II: ';' twice", "choir 1;;late 1", "fault 8 0");
        Run.reads("II: ';' in place of a NUMBER", "choir ;", "fault 6 0");
        Run.reads("II: ';' in place of h", "hour ;", "fault 5 0");
        Run.reads("II: ';' behind h", "hour 1;", "fault 6 0");
        Run.reads("II: a WORD in place of a NUMBER", "choir late 1", "fault 6 0");
        Run.reads("II: a WORD behind a wrong one", "choir 1;lat 1", "fault 8 0");
    }

    private static void blanks() {
        Run.reads("II: blanks ahead", "   choir 1", "0");
        Run.reads("II: blanks behind", "choir 1   ", "0");
        Run.reads("II: blanks between", "  choir   1  ;  late   2  ;  hour   6   9  ", "0");
        Run.reads("II: no blanks at ';'", "choir 1;late 2", "0");
        Run.reads("II: no blank between WORD and NUMBER", "choir1;late2;hour1 2", "0");
        Run.reads("II: a blank in a WORD", "cho ir 1", "fault 0 0");
        Run.reads("II: a blank in a NUMBER", "quorum 1 0", "fault 9 0");
        Run.reads("II: the place is that of the WORD, not of blanks ahead", "   choi 1", "fault 3 0");
        Run.reads("II: the place is that of the NUMBER, not of blanks ahead", "choir   10", "fault 8 1");
        Run.reads("II: the place is that of h, not of blanks ahead", "hour   7 1", "fault 7 1");
        Run.reads("II: the place is that of the second WORD, not of blanks ahead", "choir 1;   choir 1", "fault 11 2");
    }

    private static void ends() {
        Run.reads("II: the end behind a WORD", "choir", "fault 5 0");
        Run.reads("II: the end behind a WORD and blanks", "choir   ", "fault 8 0");
        Run.reads("II: the end behind ';'", "choir 1;", "fault 8 0");
        Run.reads("II: the end behind ';' and blanks", "choir 1;  ", "fault 10 0");
        Run.reads("II: the end behind hour", "hour", "fault 4 0");
        Run.reads("II: the end behind hour and a blank", "hour ", "fault 5 0");
        Run.reads("II: the end behind h", "hour 1", "fault 6 0");
        Run.reads("II: the end behind h and a blank", "hour 1 ", "fault 7 0");
    }

    private static void twice() {
        for (String word : WORDS) {
            int behind = word.length() + 3;
            Run.reads("II: told twice, at its WORD", word + " 1;" + word + " 1", "fault " + behind + " 2");
            Run.reads("II: told twice, at its WORD", word + " 0;hour 0 0;" + word + " 2", "fault " + (behind + 9) + " 2");
        }
        for (int hour = 0; hour < HOURS; hour++) {
            Run.reads("II: hour told twice, at h", "hour " + hour + " 1;hour " + hour + " 2", "fault 14 2");
            Run.reads("II: hour told once for each HOUR", "hour " + hour + " 1;hour " + (hour + 1) % HOURS + " 2", "0");
        }
        Run.reads("II: the same HOUR in other digits", "hour 1 1;hour 001 2", "fault 14 2");
        Run.reads("II: h is no CLAUSE of another WORD",
            "choir 1;late 1;ill 1;business 1;quorum 1;proxy 1;hour 0 1;hour 6 1", "0");
    }

    private static void firstAlongIt() {
        Run.reads("II: twice ahead of a wrong NUMBER", "choir 1;choir 10", "fault 8 2");
        Run.reads("II: twice ahead of no NUMBER", "choir 1;choir", "fault 8 2");
        Run.reads("II: twice ahead of a wrong byte", "choir 1;choir #", "fault 8 2");
        Run.reads("II: hour twice ahead of a wrong n", "hour 1 2;hour 1 10", "fault 14 2");
        Run.reads("II: hour twice ahead of the end", "hour 1 2;hour 1", "fault 14 2");
        Run.reads("II: a wrong h is no HOUR told twice", "hour 1 2;hour 7 1", "fault 14 1");
        Run.reads("II: a wrong NUMBER ahead of twice", "choir 10;choir 1", "fault 6 1");
        Run.reads("II: a wrong NUMBER ahead of a wrong byte", "choir 10#", "fault 6 1");
        Run.reads("II: a wrong h ahead of a wrong n", "hour 7 10", "fault 5 1");
        Run.reads("II: a wrong h ahead of the end", "hour 7", "fault 5 1");
        Run.reads("II: a wrong byte ahead of a wrong NUMBER", "choir #10", "fault 6 0");
        Run.reads("II: a wrong WORD ahead of a wrong NUMBER", "choirs 10", "fault 0 0");
        Run.reads("II: the first of two wrong NUMBERS", "late 10;choir 10", "fault 5 1");
        Run.reads("II: the second CLAUSE, if the first is right", "late 9;choir 10", "fault 13 1");
    }

    private static void mostBytes() {
        String many = " ".repeat(193);
        Run.reads("II: at most 200 bytes, of blanks", many + "       ", "0");
        Run.reads("II: the 200th byte is read", many + "choir 9", "0");
        Run.reads("II: the 200th byte is read", many + "choir10", "fault 198 1");
        Run.reads("II: the 200th byte can't stand", many + "choir #", "fault 199 0");
        Run.reads("II: the end behind the 200th byte", many + "  choir", "fault 200 0");
        Run.reads("II: the end behind a ';' as 200th byte", many.substring(1) + "choir 1;", "fault 200 0");
        Run.reads("II: a NUMBER of 194 digits", "choir " + "0".repeat(194), "fault 6 1");
        Run.reads("II: a WORD of 200 letters", "a".repeat(200), "fault 0 0");
        Run.reads("II: 200 times ';'", ";".repeat(200), "fault 0 0");
        Run.reads("II: the first byte", "#" + " ".repeat(199), "fault 0 0");
    }
}
