/** Promises 16 to 18: the TAPE, the texts of STATUTES and their FAULTS. */
public final class TapeTest {
    private static final int MISPLACED = 0;
    private static final int BAD_NUMBER = 1;
    private static final int TWICE = 2;

    public static void main(String[] args) {
        feed();
        bytesInOrder();
        end();
        rightTexts();
        misplaced();
        badNumbers();
        toldTwice();
        firstFaultAlongTheText();
        longTexts();
        open();
        openOfTen();
        Check.finish("TapeTest");
    }

    private static void feed() {
        StallBook x = new StallBook();
        for (int n = 20; n <= 200; n += 20) {
            Check.due("feed", x.feed(n, -n, 0, 1, 2), n);
        }
        Check.due("feed of 200", x.feed(0, 0, 0, 0, 0), -1);
        Check.due("count(6)", x.count(6), 200);
        Check.due("end(181)", x.end(181), 181);
        Check.due("feed of 181", x.feed(0, 0, 0, 0, 0), -1);
        Check.due("count(6)", x.count(6), 181);
        Check.due("end(180)", x.end(180), 180);
        Check.due("feed of 180", x.feed(0, 0, 0, 0, 0), 200);
    }

    private static void bytesInOrder() {
        StallBook x = Check.withCanons(1);
        x.feed(Check.word("choi", 0), Check.word("r 1;", 0), Check.word("late", 0), Check.word(" 2;i", 0), Check.word("ll 3", 0));
        Check.due("feed again", x.feed(Check.word(";bus", 0), Check.word("ines", 0), Check.word("s 4;", 0), Check.word("prox", 0),
            Check.word("y 5 ", 0)), 40);
        Check.due("open", x.open(), 0);
        x.votes(0, true);
        Check.due("close(0)", x.close(0), 0);
        int[] want = {1, 2, 3, 4, 50, 5};
        for (int what = 0; what < want.length; what++) {
            Check.due("holds(0, 0, " + what + ")", x.holds(0, 0, what), want[what]);
        }
    }

    private static void end() {
        StallBook x = new StallBook();
        Check.due("end(0) of nothing", x.end(0), 0);
        Check.due("end(1) of nothing", x.end(1), -1);
        x.feed(0, 0, 0, 0, 0);
        Check.due("end(-1)", x.end(-1), -1);
        Check.due("end(MIN)", x.end(Integer.MIN_VALUE), -1);
        Check.due("end(21)", x.end(21), -1);
        Check.due("count(6)", x.count(6), 20);
        Check.due("end(20)", x.end(20), 20);
        Check.due("end(7)", x.end(7), 7);
        Check.due("end(8)", x.end(8), -1);
        Check.due("feed", x.feed(0, 0, 0, 0, 0), 27);
        Check.nights(x, 400);
        Check.due("feed at the end of the DAYS", x.feed(0, 0, 0, 0, 0), 47);
        Check.due("end at the end of the DAYS", x.end(3), 3);
    }

    private static void right(String text) {
        StallBook x = new StallBook();
        Check.tape(x, text);
        Check.due("open of '" + text + "'", x.open(), 0);
        Check.due("the TAPE is empty", x.count(6), 0);
        Check.due("vote(3)", x.vote(3), 1);
    }

    private static void faulty(String text, int place, int kind) {
        StallBook x = new StallBook();
        Check.tape(x, text);
        Check.due("open of '" + text + "'", x.open(), -2 - (1 + 8 * place + kind));
        Check.due("the TAPE is empty", x.count(6), 0);
        Check.due("no VOTE", x.vote(3), -1);
    }

    private static void rightTexts() {
        right("");
        right(" ");
        right("     ");
        right("choir 9");
        right("choir 0");
        right("  choir   9  ");
        right(" proxy 0 ; quorum 0");
        right("choir 009");
        right("choir9;late 1");
        right("quorum 100;proxy 9;late 0;ill 9;business 0;choir 3");
        right("hour 0 0;hour 1 1;hour 2 2;hour 3 3;hour 4 4;hour 5 5;hour 6 9");
        right("hour 006 009");
    }

    private static void misplaced() {
        faulty("choirs 1", 0, MISPLACED);
        faulty("choi 1", 0, MISPLACED);
        faulty("ahoir 1", 0, MISPLACED);
        faulty("choirz 1", 0, MISPLACED);
        faulty("choira 1", 0, MISPLACED);
        faulty("  choi 1", 2, MISPLACED);
        faulty("Choir 1", 0, MISPLACED);
        faulty("choiR 1", 0, MISPLACED);
        faulty("choir", 5, MISPLACED);
        faulty("choir  ", 7, MISPLACED);
        faulty("choir x", 6, MISPLACED);
        faulty("choir late 1", 6, MISPLACED);
        faulty("choir ;", 6, MISPLACED);
        faulty("choir -1", 6, MISPLACED);
        faulty("choir\t1", 5, MISPLACED);
        faulty("choir 1;", 8, MISPLACED);
        faulty("choir 1; ", 9, MISPLACED);
        faulty("choir 1;;late 1", 8, MISPLACED);
        faulty("choir 1 late 2", 8, MISPLACED);
        faulty("choir 1 2", 8, MISPLACED);
        faulty("choir 1late 2", 7, MISPLACED);
        faulty("choir 1\0", 7, MISPLACED);
        faulty("choir 1.", 7, MISPLACED);
        faulty(";", 0, MISPLACED);
        faulty(" ;choir 1", 1, MISPLACED);
        faulty("7", 0, MISPLACED);
        faulty("\0", 0, MISPLACED);
        faulty("\u00ff", 0, MISPLACED);
        faulty("hour", 4, MISPLACED);
        faulty("hour 1", 6, MISPLACED);
        faulty("hour 1;", 6, MISPLACED);
        faulty("hour ; 1", 5, MISPLACED);
        faulty("hour 1 x", 7, MISPLACED);
        faulty("hours 1 1", 0, MISPLACED);
        faulty("`", 0, MISPLACED);
        faulty("{", 0, MISPLACED);
        faulty("choir /", 6, MISPLACED);
        faulty("choir :", 6, MISPLACED);
    }

    private static void badNumbers() {
        faulty("choir 10", 6, BAD_NUMBER);
        faulty("choir   10", 8, BAD_NUMBER);
        faulty("late 10", 5, BAD_NUMBER);
        faulty("ill 999", 4, BAD_NUMBER);
        faulty("business 10", 9, BAD_NUMBER);
        faulty("proxy 10", 6, BAD_NUMBER);
        faulty("quorum 101", 7, BAD_NUMBER);
        faulty("quorum 0100", 7, BAD_NUMBER);
        faulty("choir 0001", 6, BAD_NUMBER);
        faulty("choir 42949672960", 6, BAD_NUMBER);
        faulty("hour 7 1", 5, BAD_NUMBER);
        faulty("hour 0001 1", 5, BAD_NUMBER);
        faulty("hour 12", 5, BAD_NUMBER);
        faulty("hour 6 10", 7, BAD_NUMBER);
        faulty("hour 6 0000", 7, BAD_NUMBER);
    }

    private static void toldTwice() {
        faulty("choir 1;choir 1", 8, TWICE);
        faulty("late 1; late 2", 8, TWICE);
        faulty("ill 1;ill 2", 6, TWICE);
        faulty("business 1;business 2", 11, TWICE);
        faulty("quorum 1;quorum 2", 9, TWICE);
        faulty("proxy 1;late 1;proxy 2", 15, TWICE);
        faulty("hour 1 2;hour 1 3", 14, TWICE);
        faulty("hour 1 2;hour  001 3", 15, TWICE);
        faulty("hour 6 2;hour 0 1;hour 6 3", 23, TWICE);
    }

    private static void firstFaultAlongTheText() {
        faulty("choir 1;choir x", 8, TWICE);
        faulty("choir 1;choir", 8, TWICE);
        faulty("hour 1 2;hour 1 99", 14, TWICE);
        faulty("hour 1 2;hour 1", 14, TWICE);
        faulty("hour 1 2;hour 7", 14, BAD_NUMBER);
        faulty("choir 10;late 10", 6, BAD_NUMBER);
        faulty("choir 10 x", 6, BAD_NUMBER);
        faulty("choir x;late 10", 6, MISPLACED);
    }

    private static void longTexts() {
        String blanks = " ".repeat(192);
        right(blanks + "        ");
        right(blanks + " choir 1");
        faulty(blanks + "choir 1;", 200, MISPLACED);
        faulty(blanks + "choir 10", 198, BAD_NUMBER);
        faulty("choir " + "1".repeat(194), 6, BAD_NUMBER);
        faulty("a".repeat(200), 0, MISPLACED);
        faulty(";".repeat(200), 0, MISPLACED);
    }

    private static void open() {
        StallBook x = Check.withCanons(1);
        Check.tape(x, "choir 1");
        Check.due("open", x.open(), 0);
        Check.tape(x, "late");
        Check.due("one is OPEN", x.open(), -1);
        Check.due("nothing happens", x.count(6), 4);
        x.votes(0, true);
        Check.due("close(0)", x.close(0), 0);
        Check.due("a FAULT", x.open(), -2 - 33);
        Check.due("the last VOTE is told still", x.vote(0), 1);
        Check.due("it is not OPEN", x.vote(3), 0);
        Check.tape(x, "late 3");
        Check.due("open", x.open(), 0);
        Check.due("no yes yet", x.vote(0), 0);
        Check.due("vote(2)", x.vote(2), 1);
        x.votes(0, true);
        Check.due("close(0)", x.close(0), 1);
        Check.due("each stands alone", x.holds(0, 0, 0), 2);
        Check.due("late", x.holds(0, 0, 1), 3);
        Check.tape(x, "ill 3");
        Check.nights(x, 400);
        Check.due("at the end", x.open(), -1);
        Check.due("nothing happens", x.count(6), 5);
    }

    private static void openOfTen() {
        StallBook x = Check.withCanons(1);
        for (int act = 0; act < 10; act++) {
            Check.due("open", x.open(), 0);
            x.votes(0, true);
            Check.due("close(0)", x.close(0), act);
        }
        Check.tape(x, "choir 1");
        Check.due("10 ACTS", x.open(), -1);
        Check.due("nothing happens", x.count(6), 7);
        x.undo(9);
        Check.due("10 ACTS, one UNDONE", x.open(), -1);
        Check.due("count(5)", x.count(5), 10);
    }
}
