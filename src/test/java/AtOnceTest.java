/** Promises 37 to 45: all at once, single states and words, enough days, even steps; each sentence by a test of its own. */
public final class AtOnceTest extends Kit {
    public static void main(String[] args) {
        once();
        late();
        calm();
        shock();
        unsaid();
        idle();
        enough();
        even();
        steps();
        finish();
    }

    private static void once() {
        says(37, "HURT, if it were KNOWN all at once from all STATES.");
        due("3000 to 9000", told(SAMPLE).once(0), 360000);
        due("9000 to 9000", told(SAMPLE).once(1), 0);
        due("no words are needed", told(head(2, 1, 1, 0, 0) + "grades 0 99;hearer thinks 1 1;").once(0), 245025);
        due("it falls", told(head(2, 0, 1, 0, 0) + "grades 0 99;hearer thinks 1 1;").once(0), 0);
        says(37, "-2: there is none such.");
        refusesHearers((x, hearer) -> x.once(hearer));
    }

    private static void late() {
        GentleLetters x = told(SAMPLE);
        says(38, "The last day on which it may be KNOWN all at once from all STATES so that what is LEFT is at most n");
        due("all of it", x.late(0, 360000), 3);
        due("one less", x.late(0, 359999), 2);
        due("90 of a hundred", x.late(0, 324000), 2);
        due("one less than that", x.late(0, 323999), 1);
        due("80 of a hundred", x.late(0, 288000), 1);
        due("70 of a hundred", x.late(0, 252000), 0);
        due("far more", x.late(0, Integer.MAX_VALUE), 3);
        says(38, "(0 and above)");
        due("n 0 for her whom it hurts not", x.late(1, 0), 3);
        due("n 0, healed by then", told(head(2, 1, 3, 50, 0) + "grades 0 99;hearer thinks 1 1;").late(0, 0), 0);
        says(38, "NONE: on none");
        due("one less than 70 of a hundred", x.late(0, 251999), -1);
        due("n 0", x.late(0, 0), -1);
        says(38, "-2: there are none such.");
        due("n -1", x.late(0, -1), -2);
        due("n -1 for her whom it hurts not", x.late(1, -1), -2);
        due("n MIN", x.late(0, Integer.MIN_VALUE), -2);
        refusesHearers((y, hearer) -> y.late(hearer, 0));
    }

    private static void calm() {
        GentleLetters x = told(SAMPLE);
        says(39, "STATES that would not hurt a HEARER from a BELIEF, each believed alone then, as bits.");
        due("from 3000: 0 and 3000, not 9000", x.calm(0, 7), 3);
        due("from {0}: itself", x.calm(0, 1), 1);
        due("from {2}: all, not believed too", x.calm(0, 4), 7);
        due("from 9000", x.calm(1, 7), 7);
        GentleLetters z = told(head(2, 0, 1, 0, 0) + "grades 50 0;hearer thinks 1 1;");
        due("from 2500: not 5000, though it is the first", z.calm(0, 3), 2);
        due("from {0}: both", z.calm(0, 1), 3);
        // 90 to 100 hurts by 1, 95 to 100 by nothing
        GentleLetters y = told(head(2, 0, 1, 0, 0) + "grades 0 1;hearer thinks 2 18;hearer thinks 1 19;");
        due("a rise of 10", y.calm(0, 3), 1);
        due("a rise of 5, cut to nothing", y.calm(1, 3), 3);
        says(39, "-2: there are none such.");
        due("belief 0", x.calm(0, 0), -2);
        due("belief 8", x.calm(0, 8), -2);
        due("belief -1", x.calm(0, -1), -2);
        refusesHearers((w, hearer) -> w.calm(hearer, 7));
    }

    private static void shock() {
        says(40, "The STATE that would hurt a HEARER most, believed alone at once from all STATES");
        due("2", told(SAMPLE).shock(0), 2);
        due("not the one that is so", told(head(3, 0, 1, 0, 0) + "grades 5 9 1;hearer thinks 1 1 1;").shock(0), 1);
        due("the last of eight", told(head(8, 0, 1, 0, 0) + "grades 1 2 3 4 5 6 7 8;hearer thinks 1 1 1 1 1 1 1 1;").shock(0), 7);
        due("by 1 alone", told(head(2, 0, 1, 0, 0) + "grades 0 1;hearer thinks 2 18;").shock(0), 1);
        says(40, ", the first of several.");
        due("none hurts her", told(SAMPLE).shock(1), 0);
        due("1 and 2 alike", told(head(3, 0, 1, 0, 0) + "grades 1 9 9;hearer thinks 3 1 1;").shock(0), 1);
        due("all alike", told(head(8, 3, 1, 0, 0) + "hearer thinks 1 1 1 1 1 1 1 1;").shock(0), 0);
        says(40, "-2: there is none such.");
        refusesHearers((x, hearer) -> x.shock(hearer));
    }

    private static void unsaid() {
        says(41, "STATES that could not be told by WORDS true of them alone");
        due("1 stands in a word with 2 alone", told(SAMPLE).unsaid(), 2);
        due("no words", told(head(2, 0, 1, 0, 0)).unsaid(), 3);
        due("no words, eight states", told(head(8, 0, 1, 0, 0)).unsaid(), 255);
        due("a word each", told(head(2, 0, 1, 0, 0) + "word shame 0 of 0;word shame 0 of 1;").unsaid(), 0);
        due("a state of no word", told(head(2, 0, 1, 0, 0) + "word shame 0 of 0;").unsaid(), 2);
        due("one word of all", told(head(2, 0, 1, 0, 0) + "word shame 0 of 0 1;").unsaid(), 3);
        says(41, "(in any order from all STATES on)");
        String ring = "word shame 0 of 0 1;word shame 0 of 1 2;word shame 0 of 2 0;";
        due("two words each, though there is one day", told(head(3, 0, 1, 0, 0) + ring).unsaid(), 0);
        says(41, ", were they so, as bits.");
        GentleLetters x = told(SAMPLE);
        x.really(0);
        due("what is really so is not asked", x.unsaid(), 2);
        says(41, "-2: there is no DESK.");
        due("unsaid()", new GentleLetters().unsaid(), -2);
    }

    private static void idle() {
        says(42, "WORDS that are in no first LEAST WEEK of any HEARER, as bits.");
        due("0 and 1 are told", told(SAMPLE).idle(), 4);
        String lie = "word shame 100 of 2;word shame 999 of 1;";
        String apart = head(3, 2, 4, 0, 0) + "grades 0 50 99;";
        due("a lie told to one", told(apart + "hearer thinks 20 1 1;" + lie).idle(), 0);
        due("not to her who thinks so", told(apart + "hearer thinks 0 0 1;" + lie).idle(), 2);
        due("to one of both is enough", told(apart + "hearer thinks 0 0 1;hearer thinks 20 1 1;" + lie).idle(), 0);
        due("the first is told to nobody", told(head(2, 1, 1, 0, 0) + "hearer thinks 1 1;word shame 0 of 0;word shame 0 of 1;")
                .idle(), 1);
        due("no week: all", told(head(3, 1, 1, 0, 0) + "hearer thinks 1 1 1;word shame 1 of 0 1;word shame 1 of 1 2;").idle(), 3);
        due("no hearers: all", told(head(2, 0, 1, 0, 0) + "word shame 0 of 0;word shame 0 of 1;").idle(), 3);
        due("eight words", told(head(2, 0, 1, 0, 0) + "hearer thinks 1 1;" + "word shame 0 of 0;".repeat(8)).idle(), 254);
        due("no words", told(head(2, 0, 1, 0, 0) + "hearer thinks 1 1;").idle(), 0);
        says(42, "-2 likewise.");
        due("idle()", new GentleLetters().idle(), -2);
    }

    private static void enough() {
        says(43, "The least days (1 .. days) with which LEAST of a HEARER is as with all");
        String lie = "grades 0 50 99;hearer thinks 20 1 1;hearer thinks 0 0 1;word shame 100 of 2;word shame 999 of 1;";
        due("a lie and the truth", told(head(3, 2, 10, 0, 0) + lie).enough(0), 2);
        due("a lie and the truth, of two", told(head(3, 2, 2, 0, 0) + lie).enough(0), 2);
        due("of one", told(head(3, 2, 1, 0, 0) + lie).enough(0), 1);
        due("she who thinks so", told(head(3, 2, 10, 0, 0) + lie).enough(1), 1);
        says(43, "(LEFT by so many days).");
        due("each day heals more", told(SAMPLE).enough(0), 4);
        // 50 a day: healed by two days behind the first, so the truth on day 0 of three costs nothing
        due("healed on the third", told(head(3, 2, 10, 50, 0) + lie).enough(0), 3);
        says(43, "NONE: there is none at all");
        due("no words", told(head(2, 0, 3, 0, 0) + "hearer thinks 1 1;").enough(0), -1);
        due("two words, one day", told(head(3, 1, 1, 0, 0) + "hearer thinks 1 1 1;word shame 1 of 0 1;word shame 1 of 1 2;")
                .enough(0), -1);
        says(43, "-2: there is none such.");
        refusesHearers((x, hearer) -> x.enough(hearer));
    }

    private static void even() {
        GentleLetters x = new GentleLetters();
        says(44, "EVEN: n (1 .. 100) steps of an amount (0 .. 10,000), as even as whole numbers can be: their squares together.");
        due("3 3 4", x.even(10, 3), 34);
        due("one step", x.even(10, 1), 100);
        due("the most", x.even(10000, 1), 100000000);
        due("a hundred hundreds", x.even(10000, 100), 1000000);
        due("three ones", x.even(3, 100), 3);
        due("nothing", x.even(0, 5), 0);
        due("nothing at once", x.even(0, 1), 0);
        due("99 of 101 and one of 100", x.even(9999, 99), 9999L * 101);
        says(44, "-2: there are none such.");
        due("amount 10,001", x.even(10001, 1), -2);
        due("amount -1", x.even(-1, 1), -2);
        due("n 0", x.even(1, 0), -2);
        due("n 101", x.even(1, 101), -2);
        due("n -1", x.even(1, -1), -2);
        due("MIN, MAX", x.even(Integer.MIN_VALUE, Integer.MAX_VALUE), -2);
    }

    private static void steps() {
        GentleLetters x = new GentleLetters();
        says(45, "The n by which that, and a price (0 .. 100,000) for each step, is least");
        due("26 and 28", x.steps(10, 7), 4);
        due("ten ones for nothing", x.steps(10, 0), 10);
        due("a hundred at most", x.steps(10000, 0), 100);
        due("32 of 312 or 313", x.steps(10000, 100000), 32);
        due("one, the price is too high", x.steps(10, 100000), 1);
        says(45, ", the least of several (1 .. 100).");
        due("nothing for nothing", x.steps(0, 0), 1);
        due("4 and 2, 2 and 4", x.steps(2, 2), 1);
        due("ones for nothing, zeros behind them", x.steps(5, 0), 5);
        says(45, "-2: there are none such.");
        due("amount 10,001", x.steps(10001, 0), -2);
        due("amount -1", x.steps(-1, 0), -2);
        due("price -1", x.steps(0, -1), -2);
        due("price 100,001", x.steps(0, 100001), -2);
        due("price MIN", x.steps(0, Integer.MIN_VALUE), -2);
    }
}
