/** Promises 1 to 11: the tape, the desk, its fault, and what the desk tells; each sentence by a test of its own. */
public final class TapeTest extends Kit {
    private static final String HEAD = head(2, 1, 3, 5, 7);

    public static void main(String[] args) {
        newObject();
        feeds();
        ends();
        desks();
        desksRefused();
        faults();
        gradesAndThoughts();
        words();
        plans();
        newsAndTells();
        finish();
    }

    private static void newObject() {
        says(1, "No DESK.");
        GentleLetters x = new GentleLetters();
        for (int what = 0; what <= 12; what++) {
            due("count(" + what + ")", x.count(what), 0);
        }
        due("grade(0)", x.grade(0), -2);
        due("undo()", x.undo(), -2);
        due("whom()", x.whom(), -2);
        due("NONE", GentleLetters.NONE, -1);
    }

    private static GentleLetters full() {
        GentleLetters x = new GentleLetters();
        for (int i = 1; i <= 45; i++) {
            due("feed " + i, x.feed(i, i, i, i, i), 20 * i);
        }
        return x;
    }

    private static void feeds() {
        says(2, "Twenty bytes come behind the TAPE");
        GentleLetters x = new GentleLetters();
        x.feed(0, 0, 0, 0, 0);
        due("twenty", x.count(10), 20);
        x.feed(0, 0, 0, 0, 0);
        due("forty", x.count(10), 40);
        GentleLetters y = new GentleLetters();
        type(y, "desk stat");
        type(y, "es 2 really 1 days 3");
        type(y, " heal 5 leak 7;");
        due("behind what was cut", y.desk(), 1);
        says(2, "four of each number, the highest first");
        GentleLetters z = new GentleLetters();
        // "desk sta" "tes 2 re" "ally 0 d" "ays 1 he" "al 0 lea" "k 0 ;" and what end() cuts off
        z.feed(0x6465736b, 0x20737461, 0x74657320, 0x32207265, 0x616c6c79);
        z.feed(0x20302064, 0x61797320, 0x31206865, 0x616c2030, 0x206c6561);
        z.feed(0x6b203020, 0x3b202020, 0x20202020, 0x20202020, 0x202020ff);
        z.end(59);
        due("desk()", z.desk(), 1);
        due("states", z.count(0), 2);
        z.feed(0x80000000, 0, 0, 0, 0);
        z.end(1);
        due("a byte of 128 is no blank", z.desk(), -4);
        says(2, ": how many it has");
        GentleLetters w = new GentleLetters();
        due("first", w.feed(1, 2, 3, 4, 5), 20);
        due("second", w.feed(1, 2, 3, 4, 5), 40);
        w.end(7);
        due("behind seven", w.feed(1, 2, 3, 4, 5), 27);
        says(2, "NONE, and none come, if it would have more than 900.");
        GentleLetters v = full();
        due("900 and 20", v.feed(0, 0, 0, 0, 0), -1);
        due("none come", v.count(10), 900);
        v.end(881);
        due("881 and 20", v.feed(0, 0, 0, 0, 0), -1);
        due("none come", v.count(10), 881);
        v.end(880);
        due("880 and 20", v.feed(0, 0, 0, 0, 0), 900);
        GentleLetters u = new GentleLetters();
        type(u, HEAD + " ".repeat(900 - HEAD.length() - 1));
        due("899 of them", u.count(10), 899);
        due("one more feed", u.feed(-1, -1, -1, -1, -1), -1);
        due("the text stands yet", u.desk(), 1);
        GentleLetters t = new GentleLetters();
        type(t, HEAD + " ".repeat(900 - HEAD.length() - 11) + "grades 3 4;");
        due("900 of them", t.count(10), 900);
        due("a desk of 900 bytes", t.desk(), 2);
        due("told to its last byte", t.grade(1), 4);
    }

    private static void ends() {
        says(3, "The TAPE has its first n bytes alone: n");
        GentleLetters x = new GentleLetters();
        type(x, HEAD + "oops");
        due("end()", x.end(HEAD.length()), HEAD.length());
        due("bytes", x.count(10), HEAD.length());
        due("the first ones are left", x.desk(), 1);
        due("end(0) of none", x.end(0), 0);
        GentleLetters y = full();
        due("end(900)", y.end(900), 900);
        due("end(899)", y.end(899), 899);
        due("end(1)", y.end(1), 1);
        due("end(0)", y.end(0), 0);
        due("bytes", y.count(10), 0);
        says(3, "NONE, and nothing happens, if it has not so many");
        GentleLetters z = new GentleLetters();
        due("end(1) of none", z.end(1), -1);
        z.feed(0, 0, 0, 0, 0);
        due("end(21)", z.end(21), -1);
        due("end(900)", z.end(900), -1);
        due("end(MAX)", z.end(Integer.MAX_VALUE), -1);
        due("bytes", z.count(10), 20);
        due("end(20)", z.end(20), 20);
        says(3, "or n is below 0.");
        due("end(-1)", z.end(-1), -1);
        due("end(MIN)", z.end(Integer.MIN_VALUE), -1);
        due("bytes", z.count(10), 20);
    }

    private static void desks() {
        says(4, "The TAPE (empty then) is the DESK");
        GentleLetters x = new GentleLetters();
        type(x, SAMPLE);
        due("desk()", x.desk(), 13);
        due("the tape", x.count(10), 0);
        due("states", x.count(0), 3);
        due("grade(2)", x.grade(2), 90);
        type(x, "abc");
        due("what is fed then is not the desk yet", x.count(0), 3);
        says(4, "(in place of another)");
        GentleLetters y = told(SAMPLE);
        y.worsen(0, 9);
        type(y, HEAD);
        due("desk()", y.desk(), 1);
        int[] counts = {2, 1, 3, 5, 7, 0, 0, 0, 0, 1, 0, 0, 0};
        for (int what = 0; what < counts.length; what++) {
            due("count(" + what + ")", y.count(what), counts[what]);
        }
        due("grade(0)", y.grade(0), 0);
        due("hearer 0", y.thinks(0, 0), -2);
        due("word 0", y.word(0, 0), -2);
        due("plan 0", y.plan(0, 0), -2);
        due("news 0", y.news(0), -1000);
        type(y, HEAD + "hearer thinks 1 2;hearer thinks 1 2;");
        y.desk();
        due("she tells nobody", y.tells(0), 0);
        due("she does not reckon", y.thinks(1, -1), 0);
        for (int turn = 0; turn < 3; turn++) {
            type(y, turn == 1 ? HEAD : SAMPLE);
            y.desk();
            y.worsen(0, 7);
        }
        type(y, HEAD);
        due("a fifth", y.desk(), 1);
        for (int what = 0; what < counts.length; what++) {
            due("of the fifth count(" + what + ")", y.count(what), counts[what]);
        }
        due("of the fifth grade(0)", y.grade(0), 0);
        due("of the fifth grade(1)", y.grade(1), 0);
        says(4, ": how many LINES");
        stands(HEAD, 1);
        stands(HEAD + "grades 1 2;grades 1 2;", 3);
        stands(HEAD + "news bad 1;" + "grades 1 2;".repeat(75), 77);
        says(4, "(0: there is none then)");
        GentleLetters z = told(SAMPLE);
        z.worsen(0, 9);
        due("an empty tape", z.desk(), 0);
        for (int what = 0; what <= 12; what++) {
            due("count(" + what + ")", z.count(what), 0);
        }
        due("grade(0)", z.grade(0), -2);
        due("mean(0, 1)", z.mean(0, 1), -2);
        due("fewest()", z.fewest(), -2);
        due("undo()", z.undo(), -2);
        due("fault(0)", z.fault(0), 0);
        for (int turn = 0; turn < 2; turn++) {
            type(z, SAMPLE);
            z.desk();
        }
        due("an empty tape behind two desks", z.desk(), 0);
        for (int what = 0; what <= 12; what++) {
            due("then count(" + what + ")", z.count(what), 0);
        }
        due("then news(0)", z.news(0), -1000);
        GentleLetters w = told(SAMPLE);
        type(w, " \n ");
        due("blanks alone", w.desk(), 0);
        due("their tape is empty too", w.count(10), 0);
        due("states", w.count(0), 0);
    }

    private static void desksRefused() {
        says(4, "-4: a FAULT (all stays).");
        GentleLetters x = told(SAMPLE);
        fill(x, 0, 0, 0, 1);
        x.worsen(0, 9);
        String text = HEAD + "grades 1 2;hearer thinks 1 0;";
        type(x, text + "x");
        due("desk()", x.desk(), -4);
        due("the tape", x.count(10), text.length() + 1);
        int[] counts = {3, 2, 4, 10, 20, 2, 3, 2, 3, 13};
        for (int what = 0; what < counts.length; what++) {
            due("count(" + what + ")", x.count(what), counts[what]);
        }
        due("changes", x.count(11), 1);
        due("slots", x.count(12), 1);
        due("grade(0)", x.grade(0), 9);
        due("grade(2)", x.grade(2), 90);
        due("thinks(0, 0)", x.thinks(0, 0), 2);
        due("tells(0)", x.tells(0), 2);
        due("believes(0)", x.believes(0), 4);
        due("once more", x.desk(), -4);
        due("undo()", x.undo(), 0);
        x.end(text.length());
        due("cut and right", x.desk(), 3);
        due("grade(1)", x.grade(1), 2);
        GentleLetters y = new GentleLetters();
        type(y, "x");
        due("with no desk", y.desk(), -4);
        due("there is none yet", y.count(9), 0);
        due("no state", y.grade(0), -2);
    }

    private static void faults() {
        says(5, "Of the latest desk()");
        GentleLetters x = new GentleLetters();
        type(x, "desk states 1");
        x.desk();
        x.end(5);
        due("not of what the tape is now: fault", x.fault(0), 2);
        due("place", x.fault(1), 12);
        x.desk();
        due("of the next one: fault", x.fault(0), 1);
        due("place", x.fault(1), 5);
        x.image(0);
        x.end(0);
        x.desk();
        due("and the next one: fault", x.fault(0), 0);
        due("place", x.fault(1), -1);
        x.back(0);
        due("images have none: fault", x.fault(0), 0);
        says(5, "what 0: its FAULT, 0 without");
        GentleLetters y = new GentleLetters();
        due("ahead of any", y.fault(0), 0);
        String[] texts = {"x", "desk states 9", HEAD + "news bad 1;".repeat(6) + "news"};
        for (int fault = 1; fault <= 3; fault++) {
            y.end(0);
            type(y, texts[fault - 1]);
            y.desk();
            due("fault " + fault, y.fault(0), fault);
        }
        y.end(0);
        type(y, HEAD);
        y.desk();
        due("without", y.fault(0), 0);
        says(5, "1: its place (NONE without).");
        GentleLetters z = new GentleLetters();
        type(z, "x");
        z.desk();
        due("the first byte", z.fault(1), 0);
        z.end(0);
        type(z, HEAD.replace(";", " ".repeat(900 - HEAD.length() + 1)));
        due("a full tape", z.count(10), 900);
        z.desk();
        due("its end", z.fault(1), 900);
        z.end(0);
        z.desk();
        due("without", z.fault(1), -1);
        says(5, "NONE for another what");
        type(z, "desk x");
        z.desk();
        int[] others = {2, 3, -1, -2, Integer.MIN_VALUE, Integer.MAX_VALUE};
        for (int what : others) {
            due("fault(" + what + ")", z.fault(what), -1);
        }
        says(5, ", and ahead of any (what 1).");
        GentleLetters w = new GentleLetters();
        due("fault(1)", w.fault(1), -1);
        due("fault(2)", w.fault(2), -1);
    }

    private static void gradesAndThoughts() {
        GentleLetters x = told(SAMPLE);
        says(6, "Grade of a STATE.");
        due("grade(0)", x.grade(0), 0);
        due("grade(1)", x.grade(1), 30);
        due("grade(2)", x.grade(2), 90);
        says(6, "-2: there is none such.");
        due("grade(3)", x.grade(3), -2);
        due("grade(-1)", x.grade(-1), -2);
        due("grade(8)", x.grade(8), -2);
        due("grade(MAX)", x.grade(Integer.MAX_VALUE), -2);
        due("no desk", new GentleLetters().grade(0), -2);
        says(7, "What a HEARER thinks of a STATE");
        due("thinks(0, 0)", x.thinks(0, 0), 2);
        due("thinks(0, 2)", x.thinks(0, 2), 1);
        due("thinks(1, 0)", x.thinks(1, 0), 0);
        due("thinks(1, 2)", x.thinks(1, 2), 1);
        says(7, "(NONE: how she reckons, 0 if not)");
        due("thinks(0, NONE)", x.thinks(0, -1), 0);
        due("thinks(1, NONE)", x.thinks(1, -1), 1);
        says(7, ". -2: there are none such.");
        refusesHearers((y, hearer) -> y.thinks(hearer, 0));
        refusesHearers((y, hearer) -> y.thinks(hearer, -1));
        due("thinks(1, 3)", x.thinks(1, 3), -2);
        due("thinks(1, -2)", x.thinks(1, -2), -2);
        due("thinks(0, 8)", x.thinks(0, 8), -2);
        due("thinks(0, MAX)", x.thinks(0, Integer.MAX_VALUE), -2);
    }

    private static void words() {
        GentleLetters x = told(SAMPLE);
        says(8, "Of a WORD, what 0: shame");
        due("word(0, 0)", x.word(0, 0), 50);
        due("word(2, 0)", x.word(2, 0), 20);
        says(8, "1: STATES, as bits");
        due("word(0, 1)", x.word(0, 1), 6);
        due("word(1, 1)", x.word(1, 1), 4);
        due("word(2, 1)", x.word(2, 1), 1);
        due("eight states", told(head(8, 0, 1, 0, 0) + "word shame 0 of 7 0 3;").word(0, 1), 137);
        says(8, "2: 1 if it is TRUE, else 0.");
        due("word(0, 2)", x.word(0, 2), 1);
        due("word(1, 2)", x.word(1, 2), 1);
        due("word(2, 2)", x.word(2, 2), 0);
        says(8, "-2: there are none such.");
        due("word(3, 0)", x.word(3, 0), -2);
        due("word(-1, 0)", x.word(-1, 0), -2);
        due("silence", x.word(8, 0), -2);
        due("what 3", x.word(0, 3), -2);
        due("what -1", x.word(0, -1), -2);
        due("no desk", new GentleLetters().word(0, 0), -2);
    }

    private static void plans() {
        GentleLetters x = told(SAMPLE + "plan 2 1 0 1 2;");
        says(9, "WORD i (from 0) of a PLAN.");
        due("plan(0, 0)", x.plan(0, 0), 0);
        due("plan(0, 1)", x.plan(0, 1), 1);
        due("plan(1, 0)", x.plan(1, 0), 2);
        due("plan(2, 2)", x.plan(2, 2), 0);
        due("plan(2, 4)", x.plan(2, 4), 2);
        says(9, "NONE: there is none such");
        due("plan(0, 2)", x.plan(0, 2), -1);
        due("plan(1, 1)", x.plan(1, 1), -1);
        due("plan(2, 5)", x.plan(2, 5), -1);
        due("plan(0, -1)", x.plan(0, -1), -1);
        due("plan(0, MAX)", x.plan(0, Integer.MAX_VALUE), -1);
        says(9, "-2: there is no such PLAN.");
        due("plan(3, 0)", x.plan(3, 0), -2);
        due("plan(-1, 0)", x.plan(-1, 0), -2);
        due("plan(3, 9)", x.plan(3, 9), -2);
        due("plan(4, 0)", x.plan(4, 0), -2);
        due("no desk", new GentleLetters().plan(0, 0), -2);
    }

    private static void newsAndTells() {
        GentleLetters x = told(SAMPLE);
        says(10, "NEWS: what it is, below 0 if it is bad.");
        due("news(0)", x.news(0), -10);
        due("news(1)", x.news(1), 4);
        due("news(2)", x.news(2), -3);
        says(10, "-1,000: there is none such.");
        due("news(3)", x.news(3), -1000);
        due("news(-1)", x.news(-1), -1000);
        due("news(6)", x.news(6), -1000);
        due("no desk", new GentleLetters().news(0), -1000);
        says(11, "HEARERS whom one tells, as bits.");
        due("tells(0)", x.tells(0), 2);
        due("tells(1)", x.tells(1), 0);
        GentleLetters y = told(HEAD + "hearer thinks 1 1;".repeat(4) + "tells 1 3;tells 1 0;tells 1 3;tells 3 2;");
        due("several", y.tells(1), 9);
        due("the last", y.tells(3), 4);
        says(11, "-2: there is none such.");
        refusesHearers((z, hearer) -> z.tells(hearer));
        due("tells(4)", y.tells(4), -2);
    }
}
