import java.util.ArrayList;
import java.util.List;

/**
 * A run of calls on a new object, told as text: a call a row, or several with ';' between.
 *
 *   stall(1000) = 0          the answer that is due; true and false may stand for 1 and 0
 *   canon()                  without one: any answer that says that the call was done
 *   400 x night() = 400      so many times; the answer is that of the last
 *   tape('choir 1')          puts a text on the TAPE, in place of what was there
 *   open() = fault 6 1       -2 - the FAULT at this place, of this kind
 *   back(3) = any            whatever it answers
 *
 * Behind each call that was refused, or only asks, the book is held against one on which
 * that call was never made: it must be as it was.
 */
final class Run {
    private final String sentence;
    private final String text;
    private final StallBook book = new StallBook();
    private final List<Calls.Call> made = new ArrayList<>();

    private Run(String itsSentence, String itsText) {
        sentence = itsSentence;
        text = itsText;
    }

    /** Makes the run that shows a sentence of the document. */
    static void shows(String sentence, String rows) {
        Run run = new Run(sentence, rows);
        for (String row : run.rows()) {
            run.row(row);
        }
    }

    /** Makes the run that opens a VOTE on a text: 0, or "fault place kind". Whatever the answer, the TAPE is empty then. */
    static void reads(String sentence, String bytes, String answer) {
        Run run = new Run(sentence, "");
        run.tape(bytes);
        run.row("open() = " + answer);
        run.row("count(6) = 0");
        run.row("vote(3) = " + (answer.equals("0") ? "1" : "-1"));
        run.row("open() = " + (answer.equals("0") ? "-1" : "0"));
    }

    private List<String> rows() {
        List<String> rows = new ArrayList<>();
        StringBuilder row = new StringBuilder();
        boolean isQuoted = false;
        for (char c : text.toCharArray()) {
            isQuoted ^= c == '\'';
            if (!isQuoted && (c == ';' || c == '\n')) {
                rows.add(row.toString());
                row.setLength(0);
            } else {
                row.append(c);
            }
        }
        rows.add(row.toString());
        rows.removeIf(String::isBlank);
        return rows;
    }

    private void row(String row) {
        int opens = row.indexOf('(');
        int closes = row.lastIndexOf(')');
        String head = row.substring(0, opens).strip();
        String inside = row.substring(opens + 1, closes);
        String tail = row.substring(closes + 1).strip();
        int times = 1;
        if (head.contains(" x ")) {
            times = Integer.parseInt(head.substring(0, head.indexOf(' ')));
            head = head.substring(head.lastIndexOf(' ') + 1);
        }
        if (head.equals("tape")) {
            tape(inside.substring(1, inside.length() - 1));
            return;
        }
        Calls.Call call = Calls.Call.of(head, numbers(inside));
        for (int time = 1; time < times; time++) {
            make(call, "");
        }
        make(call, tail);
    }

    private static int[] numbers(String inside) {
        if (inside.isBlank()) {
            return new int[0];
        }
        String[] told = inside.split(",");
        int[] numbers = new int[told.length];
        for (int i = 0; i < told.length; i++) {
            numbers[i] = number(told[i].strip());
        }
        return numbers;
    }

    private static int number(String told) {
        switch (told) {
            case "true": return 1;
            case "false": return 0;
            case "MIN": return Integer.MIN_VALUE;
            case "MAX": return Integer.MAX_VALUE;
            default: return Integer.parseInt(told);
        }
    }

    private void tape(String bytes) {
        make(Calls.Call.of("end", 0), "");
        for (int at = 0; at < bytes.length(); at += 20) {
            make(Calls.Call.of("feed", Check.word(bytes, at), Check.word(bytes, at + 4), Check.word(bytes, at + 8),
                Check.word(bytes, at + 12), Check.word(bytes, at + 16)), "");
        }
        make(Calls.Call.of("end", bytes.length()), "");
    }

    /** Makes a call; the tail is "= answer", or empty where it has only to be done. */
    private void make(Calls.Call call, String tail) {
        int got = call.on(book);
        String what = sentence + ": " + call.told();
        if (tail.isEmpty()) {
            Check.due(what + " (" + got + ") is done", got >= 0 && !call.isRefused(got), true);
        } else if (!tail.equals("= any")) {
            Check.due(what, got, wanted(tail.substring(1).strip()));
        }
        if (call.asks() || call.isRefused(got)) {
            staysAsItWas(call);
        }
        made.add(call);
        Check.due(sentence + ": no more calls than are promised", made.size() <= Calls.MOST, true);
    }

    private static int wanted(String told) {
        if (!told.startsWith("fault ")) {
            return number(told);
        }
        String[] parts = told.split(" ");
        return -2 - (1 + 8 * Integer.parseInt(parts[1]) + Integer.parseInt(parts[2]));
    }

    private void staysAsItWas(Calls.Call call) {
        for (List<Calls.Call> view : Views.ALL) {
            StallBook with = again();
            StallBook without = again();
            call.on(with);
            int room = Calls.MOST - made.size() - 1;
            for (int i = 0; i < view.size() && i < room; i++) {
                Calls.Call look = view.get(i);
                int got = look.on(with);
                int want = look.on(without);
                Check.due(got == want ? "" : sentence + ": " + look.told() + " behind " + call.told(), got, want);
            }
        }
    }

    private StallBook again() {
        StallBook twin = new StallBook();
        for (Calls.Call call : made) {
            call.on(twin);
        }
        return twin;
    }
}
