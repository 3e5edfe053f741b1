import java.nio.charset.StandardCharsets;

/** What the tests share: feeding a text, and counting answers that are not the ones due. */
final class Kit {
    /** Three states, a hearer who does not reckon and one who does; its numbers are worked out by hand in the tests. */
    static final String SAMPLE =
            "desk states 3 really 2 days 4 heal 10 leak 20 ;\n"
            + "grades 0 30 90 ;\n"
            + "hearer thinks 2 1 1 ;\n"
            + "hearer thinks 0 0 1 reckons 1 ;\n"
            + "word shame 50 of 1 2 ;\n"
            + "word shame 70 of 2 ;\n"
            + "word shame 20 of 0 ;\n"
            + "plan 0 1 ;\n"
            + "plan 2 ;\n"
            + "news bad 10 ; news good 4 ; news bad 3 ;\n"
            + "tells 0 1 ;\n";

    private static int wrong = 0;
    private static int asked = 0;

    private Kit() { }

    static void due(String call, long got, long want) {
        asked++;
        if (got != want) {
            wrong++;
            System.out.println(call + " answered " + got + ", due is " + want);
        }
    }

    /** Prints the outcome and ends with exit code 1 if an answer was wrong. */
    static void finish() {
        System.out.println(wrong == 0 ? asked + " answers are as due" : wrong + " of " + asked + " answers are not as due");
        if (wrong != 0) {
            System.exit(1);
        }
    }

    /** Puts a text behind the tape, of any length: the last feed's surplus is cut off again. */
    static void type(GentleLetters x, String text) {
        byte[] bytes = text.getBytes(StandardCharsets.ISO_8859_1);
        int before = x.count(10);
        for (int at = 0; at < bytes.length; at += 20) {
            x.feed(four(bytes, at), four(bytes, at + 4), four(bytes, at + 8), four(bytes, at + 12), four(bytes, at + 16));
        }
        x.end(before + bytes.length);
    }

    private static int four(byte[] bytes, int at) {
        int value = 0;
        for (int i = at; i < at + 4; i++) {
            value = value << 8 | (i < bytes.length ? bytes[i] & 255 : 0);
        }
        return value;
    }

    static GentleLetters told(String text) {
        GentleLetters x = new GentleLetters();
        type(x, text);
        int lines = x.desk();
        if (lines < 0) {
            due("desk() of a text that should stand, fault " + x.fault(0) + " at " + x.fault(1), lines, 0);
        }
        return x;
    }

    static void fill(GentleLetters x, int slot, int width, long... numbers) {
        x.row(slot, width, numbers.length);
        for (int i = 0; i < numbers.length; i++) {
            x.write(slot, i, numbers[i]);
        }
    }
}
