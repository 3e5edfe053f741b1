import java.nio.charset.StandardCharsets;

/** What the tests share: the sentence under test, texts fed, and counting answers that are not the ones due. */
abstract class Kit {
    /** Three states, a hearer who does not reckon and one who does; its numbers are worked out by hand in the tests. */
    static final String SAMPLE =
            "desk states 3 really 2 days 4 heal 10 leak 20 ;\n"
            + "grades 0 30 90 ;\n"
            + "hearer thinks 2 1 1 ;\n"
            + "hearer thinks 0 0 1 reckons 1 ;\n"
            + "word shame 50 of 1 2 ;\n"
            + "word shame 70 of 2 ;\n"
            + "word shame 20 of 0 ;\n"
            + "plan 0 1 ;\n"
            + "plan 2 ;\n"
            + "news bad 10 ; news good 4 ; news bad 3 ;\n"
            + "tells 0 1 ;\n";

    private static int wrong = 0;
    private static int asked = 0;
    private static String sentence = "";
    private static int askedOfSentence = 0;

    /** A call on a slot's row, as many promises make it. */
    interface RowCall {
        int on(GentleLetters x, int slot);
    }

    /** A call for a hearer. */
    interface HearerCall {
        int of(GentleLetters x, int hearer);
    }

    /** Opens the test of a sentence of a promise, in the document's own words (QuotesTest compares them). */
    static void says(int promise, String words) {
        closeSentence();
        sentence = "promise " + promise + ", \"" + words + "\": ";
    }

    /** Opens the test of a sentence of a term. */
    static void term(String number, String words) {
        closeSentence();
        sentence = "term " + number + ", \"" + words + "\": ";
    }

    private static void closeSentence() {
        if (!sentence.isEmpty() && askedOfSentence == 0) {
            wrong++;
            System.out.println(sentence + "nothing is asked");
        }
        askedOfSentence = 0;
    }

    static void due(String call, long got, long want) {
        asked++;
        askedOfSentence++;
        if (got != want) {
            wrong++;
            System.out.println(sentence + call + " answered " + got + ", due is " + want);
        }
    }

    /** Prints the outcome and ends with exit code 1 if an answer was wrong. */
    static void finish() {
        closeSentence();
        System.out.println(wrong == 0 ? asked + " answers are as due" : wrong + " wrong, " + asked + " answers asked");
        if (wrong != 0) {
            System.exit(1);
        }
    }

    // ---- texts ----

    static String head(int states, int really, int days, int heal, int leak) {
        return "desk states " + states + " really " + really + " days " + days + " heal " + heal + " leak " + leak + ";";
    }

    /** Puts a text behind the tape, of any length: the last feed's surplus is cut off again. */
    static void type(GentleLetters x, String text) {
        byte[] bytes = text.getBytes(StandardCharsets.ISO_8859_1);
        int before = x.count(10);
        for (int at = 0; at < bytes.length; at += 20) {
            x.feed(four(bytes, at), four(bytes, at + 4), four(bytes, at + 8), four(bytes, at + 12), four(bytes, at + 16));
        }
        x.end(before + bytes.length);
    }

    private static int four(byte[] bytes, int at) {
        int value = 0;
        for (int i = at; i < at + 4; i++) {
            value = value << 8 | (i < bytes.length ? bytes[i] & 255 : 0);
        }
        return value;
    }

    static GentleLetters told(String text) {
        GentleLetters x = new GentleLetters();
        type(x, text);
        int lines = x.desk();
        if (lines < 0) {
            due("desk() of a text that should stand, fault " + x.fault(0) + " at " + x.fault(1), lines, 0);
        }
        return x;
    }

    static void stands(String text, int lines) {
        GentleLetters x = new GentleLetters();
        type(x, text);
        due("desk() of <" + text + ">", x.desk(), lines);
        due("fault(0) of <" + text + ">", x.fault(0), 0);
        due("fault(1) of <" + text + ">", x.fault(1), -1);
    }

    /** The sign ^ is no part of the text: it stands ahead of the fault's place. */
    static void faulty(int fault, String marked) {
        String text = marked.replace("^", "");
        GentleLetters x = new GentleLetters();
        type(x, text);
        due("desk() of <" + marked + ">", x.desk(), -4);
        due("fault(0) of <" + marked + ">", x.fault(0), fault);
        due("fault(1) of <" + marked + ">", x.fault(1), marked.indexOf('^'));
    }

    /** The number between two texts may be low to high and no other. */
    static void bounds(String before, int low, int high, String after, int lines) {
        stands(before + low + after, lines);
        stands(before + high + after, lines);
        faulty(2, before + "^" + (high + 1) + after);
        if (low > 0) {
            faulty(2, before + "^" + (low - 1) + after);
        }
    }

    // ---- rows ----

    static void fill(GentleLetters x, int slot, int width, long... numbers) {
        x.row(slot, width, numbers.length);
        for (int i = 0; i < numbers.length; i++) {
            x.write(slot, i, numbers[i]);
        }
    }

    /** A new sample desk with a row of words in slot 0. */
    static GentleLetters week(long... words) {
        GentleLetters x = told(SAMPLE);
        fill(x, 0, 0, words);
        return x;
    }

    /** What believes() refuses, and in its order, another call that says "likewise" refuses too. */
    static void refusesRows(RowCall call) {
        GentleLetters x = week(8, 8, 8, 8);
        due("slot -1", call.on(x, -1), -2);
        due("slot 4", call.on(x, 4), -2);
        due("slot MIN", call.on(x, Integer.MIN_VALUE), -2);
        due("slot MAX", call.on(x, Integer.MAX_VALUE), -2);
        due("slot 1 has nothing", call.on(x, 1), -6);
        due("slot 3 has nothing", call.on(x, 3), -6);
        due("as many as days is not refused", call.on(x, 0) == -2 || call.on(x, 0) == -6 ? 1 : 0, 0);
        fill(x, 1, 0, 8, 8, 8, 8, 8);
        due("more than days", call.on(x, 1), -2);
        long[] bad = {3, 7, 9, -1, 1L << 32, 1L << 63};
        for (long number : bad) {
            fill(x, 1, 3, 0, number);
            due("number " + number + " is no word", call.on(x, 1), -2);
        }
        GentleLetters empty = new GentleLetters();
        due("no desk, slot 0 has nothing", call.on(empty, 0), -2);
        fill(empty, 0, 0, 8);
        due("no desk", call.on(empty, 0), -2);
    }

    /** Hearers that the sample desk, a desk without any, and no desk do not have. */
    static void refusesHearers(HearerCall call) {
        GentleLetters x = week(0, 1);
        due("hearer -1", call.of(x, -1), -2);
        due("hearer 2", call.of(x, 2), -2);
        due("hearer 4", call.of(x, 4), -2);
        due("hearer MIN", call.of(x, Integer.MIN_VALUE), -2);
        due("hearer MAX", call.of(x, Integer.MAX_VALUE), -2);
        due("hearer 1 is one", call.of(x, 1) == -2 ? 1 : 0, 0);
        GentleLetters nobody = told(head(3, 2, 4, 10, 20));
        fill(nobody, 0, 0, 8);
        due("no hearers", call.of(nobody, 0), -2);
        GentleLetters empty = new GentleLetters();
        fill(empty, 0, 0, 8);
        due("no desk", call.of(empty, 0), -2);
    }
}
