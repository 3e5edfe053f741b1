/** Of term III, and promises 17 to 25 and 35: a slot's row told as a week; each sentence by a test of its own. */
public final class WeeksTest extends Kit {
    public static void main(String[] args) {
        weekAndLeft();
        believes();
        hurtsAndWorst();
        left();
        liesAndShames();
        known();
        softer();
        ordered();
        hope();
        finish();
    }

    private static void weekAndLeft() {
        term("III", "WEEK: a row of WORDS or SILENCE, one a day from day 0 on, at most days.");
        GentleLetters x = week(0, 8, 8, 1);
        due("four on four days", x.believes(0), 4);
        due("the word of day 3", x.known(0), 3);
        fill(x, 0, 0, 0, 8, 8, 8, 1);
        due("five on four days", x.believes(0), -2);
        term("III", "LEFT of a HURT on day d at the END (behind the last day): heal less a day for each day behind it");
        int[] parts = {252000, 288000, 324000, 360000};
        for (int day = 0; day < 4; day++) {
            long[] row = new long[day + 1];
            java.util.Arrays.fill(row, 8);
            row[day] = 1;
            due("360000 on day " + day, week(row).left(0, 0), parts[day]);
        }
        term("III", ": HURT times (100 less heal times days less 1 less d");
        GentleLetters y = told(head(2, 1, 3, 30, 0) + "grades 0 99;hearer thinks 1 1;word shame 5 of 1;word shame 6 of 0;");
        fill(y, 0, 0, 0, 1, 0);
        due("40 of 245025 and all of 980100", y.left(0, 0), 98010 + 980100);
        GentleLetters none = told(head(2, 1, 3, 0, 0) + "grades 0 99;hearer thinks 1 1;word shame 5 of 1;");
        fill(none, 0, 0, 0);
        due("heal 0", none.left(0, 0), 245025);
        term("III", ", at least 0)");
        GentleLetters z = told(head(2, 1, 3, 60, 0) + "grades 0 99;hearer thinks 1 1;word shame 5 of 1;word shame 6 of 0;");
        fill(z, 0, 0, 0, 1, 0);
        due("60 times 2 is more than 100", z.left(0, 0), 980100);
        GentleLetters whole = told(head(2, 1, 10, 100, 0) + "grades 0 99;hearer thinks 1 1;word shame 5 of 1;");
        fill(whole, 0, 0, 0);
        due("100 times 9 is", whole.left(0, 0), 0);
        GentleLetters just = told(head(2, 1, 3, 50, 0) + "grades 0 99;hearer thinks 1 1;word shame 5 of 1;");
        fill(just, 0, 0, 0);
        due("50 times 2 is just 100", just.left(0, 0), 0);
        term("III", ", by 100, cut.");
        GentleLetters w = told(head(2, 1, 2, 23, 0) + "grades 0 99;hearer thinks 1 1;word shame 5 of 1;");
        fill(w, 0, 0, 0);
        due("188669.25", w.left(0, 0), 188669);
        GentleLetters each = told(head(2, 1, 3, 1, 0) + "grades 0 1;hearer thinks 1 1;word shame 0 of 1;word shame 0 of 0;");
        // 50 to 100 hurts 25, 0 to 100 hurts 100
        fill(each, 0, 0, 0, 1);
        due("98 of 25 is 24.5", each.left(0, 0), 24);
        fill(each, 0, 0, 1, 0);
        due("99 of 100", each.left(0, 0), 99);
        term("III", "KNOWN: BELIEF is the STATE alone that really is.");
        due("{2}", week(1).known(0), 0);
        due("{1 2}", week(0).known(0), -1);
        due("{0}", week(2).known(0), -1);
    }

    private static void believes() {
        says(17, "A SLOT's row as a WEEK: BELIEF behind all.");
        due("0 8 1", week(0, 8, 1).believes(0), 4);
        due("0", week(0).believes(0), 6);
        due("1 0: {1 2} of {2}", week(1, 0).believes(0), 4);
        due("1 2 0: {0}, then {1 2}", week(1, 2, 0).believes(0), 6);
        due("none", week().believes(0), 7);
        GentleLetters x = told(SAMPLE);
        for (int slot = 0; slot < 4; slot++) {
            fill(x, slot, slot, 8, slot % 3);
        }
        int[] beliefs = {6, 4, 1, 6};
        for (int slot = 0; slot < 4; slot++) {
            due("slot " + slot + " of width " + slot, x.believes(slot), beliefs[slot]);
        }
        says(17, "-2: there is no such SLOT");
        due("slot 4", x.believes(4), -2);
        due("slot -1", x.believes(-1), -2);
        due("slot MAX", x.believes(Integer.MAX_VALUE), -2);
        due("slot MIN", x.believes(Integer.MIN_VALUE), -2);
        says(17, ", no DESK");
        GentleLetters empty = new GentleLetters();
        due("nothing", empty.believes(0), -2);
        fill(empty, 0, 0, 8);
        due("silence", empty.believes(0), -2);
        empty.row(0, 0, 0);
        due("a row of none", empty.believes(0), -2);
        says(17, ", a number is no WORD, no SILENCE (asked last)");
        long[] bad = {3, 4, 7, 9, 10, 255, 256 + 8, -1, -8, 1L << 32, 8 + (1L << 32), Long.MIN_VALUE, Long.MAX_VALUE};
        for (long number : bad) {
            fill(x, 0, 3, number);
            due("number " + number, x.believes(0), -2);
            fill(x, 0, 3, 0, 8, 1, number);
            due("number " + number + " on the last day", x.believes(0), -2);
        }
        long[] good = {0, 1, 2, 8};
        for (long number : good) {
            fill(x, 0, 3, number);
            due("number " + number, x.believes(0) > 0 ? 1 : 0, 1);
        }
        says(17, ", more than days");
        due("four on four days", week(8, 8, 8, 8).believes(0), 7);
        due("five on four days", week(8, 8, 8, 8, 8).believes(0), -2);
        GentleLetters long60 = told(SAMPLE);
        long60.row(0, 0, 60);
        due("sixty", long60.believes(0), -2);
        GentleLetters ten = told(head(2, 0, 10, 0, 0));
        fill(ten, 0, 0, 8, 8, 8, 8, 8, 8, 8, 8, 8, 8);
        due("ten on ten days", ten.believes(0), 3);
        fill(ten, 0, 0, 8, 8, 8, 8, 8, 8, 8, 8, 8, 8, 8);
        due("eleven on ten days", ten.believes(0), -2);
        says(17, "-6: it has nothing.");
        due("slot 1", week(0).believes(1), -6);
        due("slot 3", week(0).believes(3), -6);
    }

    private static void hurtsAndWorst() {
        says(18, "HURTS of it, together.");
        due("0 8 1: 90000 twice", week(0, 8, 1).hurts(0, 0), 180000);
        due("0 8 1 of her who thinks so already", week(0, 8, 1).hurts(0, 1), 0);
        due("1 2 2 1: 360000, 0, 0, 810000", week(1, 2, 2, 1).hurts(0, 0), 1170000);
        due("silence", week(8, 8, 8, 8).hurts(0, 0), 0);
        due("none", week().hurts(0, 0), 0);
        GentleLetters most = told(head(2, 1, 10, 0, 0) + "grades 0 99;hearer thinks 1 0;word shame 0 of 1;word shame 0 of 0;");
        fill(most, 0, 0, 0, 1, 0, 1, 0, 1, 0, 1, 0, 1);
        due("five times the most", most.hurts(0, 0), 5 * 980100);
        says(18, "-2, -6 likewise, no such HEARER.");
        refusesRows((x, slot) -> x.hurts(slot, 0));
        refusesHearers((x, hearer) -> x.hurts(0, hearer));
        due("no such hearer, nothing", week(0).hurts(1, 2), -2);
        says(19, "The greatest HURT in it.");
        due("0 8 1", week(0, 8, 1).worst(0, 0), 90000);
        due("1 2 2 1", week(1, 2, 2, 1).worst(0, 0), 810000);
        due("1 2", week(1, 2).worst(0, 0), 360000);
        due("silence", week(8).worst(0, 0), 0);
        due("none", week().worst(0, 0), 0);
        says(19, "-2, -6 likewise.");
        refusesRows((x, slot) -> x.worst(slot, 0));
        refusesHearers((x, hearer) -> x.worst(0, hearer));
        due("no such hearer, nothing", week(0).worst(1, 2), -2);
    }

    private static void left() {
        says(20, "What is LEFT of them.");
        due("0 8 1: 70 and 90 of 90000", week(0, 8, 1).left(0, 0), 63000 + 81000);
        due("1 2 2 1: 70 of 360000 and 810000", week(1, 2, 2, 1).left(0, 0), 252000 + 810000);
        due("none", week().left(0, 0), 0);
        due("shame is no part of it", week(2).left(0, 0), 0);
        says(20, "-2, -6 likewise.");
        refusesRows((x, slot) -> x.left(slot, 0));
        refusesHearers((x, hearer) -> x.left(0, hearer));
        due("no such hearer, nothing", week(0).left(1, 2), -2);
    }

    private static void liesAndShames() {
        says(21, "The first day (from 0) on which a WORD that is not TRUE is told.");
        due("2 0", week(2, 0).lies(0), 0);
        due("1 2 2 1", week(1, 2, 2, 1).lies(0), 1);
        due("0 8 1 2", week(0, 8, 1, 2).lies(0), 3);
        says(21, "NONE: on none");
        due("0 8 1", week(0, 8, 1).lies(0), -1);
        due("silence is no lie", week(8).lies(0), -1);
        due("none", week().lies(0), -1);
        says(21, "-2, -6 likewise (no HEARER).");
        refusesRows((x, slot) -> x.lies(slot));
        GentleLetters nobody = told(head(2, 0, 2, 0, 0) + "word shame 0 of 1;");
        fill(nobody, 0, 0, 8, 0);
        due("without hearers", nobody.lies(0), 1);
        says(22, "All shame in it.");
        due("1 2 2 1", week(1, 2, 2, 1).shames(0), 40);
        due("0 8 1, all true", week(0, 8, 1).shames(0), 0);
        due("none", week().shames(0), 0);
        GentleLetters most = told(head(2, 0, 10, 0, 0) + "word shame 999 of 1;");
        most.row(0, 0, 10);
        due("ten times 999", most.shames(0), 9990);
        says(22, "-2, -6 likewise.");
        refusesRows((x, slot) -> x.shames(slot));
        due("without hearers", nobody.shames(0), 0);
    }

    private static void known() {
        says(23, "The first day behind which it is KNOWN");
        due("1", week(1).known(0), 0);
        due("0 8 1", week(0, 8, 1).known(0), 2);
        due("1 8 0, known all along", week(1, 8, 0).known(0), 0);
        due("8 8 8 1", week(8, 8, 8, 1).known(0), 3);
        says(23, ", and so to its end.");
        due("1 2 2 1, lost and known again", week(1, 2, 2, 1).known(0), 3);
        due("1 2 1 8", week(1, 2, 1, 8).known(0), 2);
        says(23, "NONE: never");
        due("1 2, known no more", week(1, 2).known(0), -1);
        due("0", week(0).known(0), -1);
        due("none", week().known(0), -1);
        says(23, "-2, -6 likewise.");
        refusesRows((x, slot) -> x.known(slot));
    }

    private static void softer() {
        says(24, "The least that is LEFT of a row of at most six days, told in any order.");
        // 1 first leaves 252000, and then 0 nothing; 0 ahead of 1: 63000 and 72000
        due("1 0", week(1, 0).softer(0, 0), 135000);
        due("0 1", week(0, 1).softer(0, 0), 135000);
        due("1 0 1 0", week(1, 0, 1, 0).softer(0, 0), 135000);
        // silence has its day too, best the last one
        due("8 1", week(8, 1).softer(0, 0), 252000);
        due("8 1 0", week(8, 1, 0).softer(0, 0), 135000);
        due("hearer 1", week(1, 0).softer(0, 1), 0);
        due("one", week(1).softer(0, 0), 252000);
        due("none", week().softer(0, 0), 0);
        GentleLetters six = told(head(2, 1, 6, 0, 0) + "grades 0 99;hearer thinks 1 1;word shame 0 of 1;word shame 0 of 0;");
        fill(six, 0, 0, 0, 1, 0, 1, 0, 1);
        due("six: ones together, then the others", six.softer(0, 0), 245025);
        says(24, "-2, -6 as left()");
        refusesRows((x, slot) -> x.softer(slot, 0));
        refusesHearers((x, hearer) -> x.softer(0, hearer));
        due("no such hearer, nothing", week(0).softer(1, 2), -2);
        says(24, ", more than six.");
        GentleLetters y = told(head(2, 1, 8, 0, 0) + "hearer thinks 1 1;word shame 0 of 1;");
        y.row(0, 0, 6);
        due("six of eight days", y.softer(0, 0), 0);
        y.row(0, 0, 7);
        due("seven of eight days", y.softer(0, 0), -2);
        due("seven for left()", y.left(0, 0), 0);
        y.row(0, 0, 8);
        due("eight of eight days", y.softer(0, 0), -2);
    }

    private static void ordered() {
        says(25, "Which of its days (from 0) is told on day i by the first such order");
        GentleLetters x = week(1, 0);
        due("1 0: first day 1", x.ordered(0, 0, 0), 1);
        due("1 0: then day 0", x.ordered(0, 0, 1), 0);
        GentleLetters three = week(8, 1, 0);
        due("8 1 0: 0", three.ordered(0, 0, 0), 2);
        due("8 1 0: then 1", three.ordered(0, 0, 1), 1);
        due("8 1 0: then silence", three.ordered(0, 0, 2), 0);
        says(25, "(the least row).");
        due("all orders alike for hearer 1, day 0", x.ordered(0, 1, 0), 0);
        due("all orders alike for hearer 1, day 1", x.ordered(0, 1, 1), 1);
        GentleLetters four = week(1, 0, 1, 0);
        int[] order = {1, 0, 2, 3};
        for (int i = 0; i < 4; i++) {
            due("1 0 1 0: day " + i, four.ordered(0, 0, i), order[i]);
        }
        GentleLetters six = told(head(2, 1, 6, 0, 0) + "hearer thinks 1 1;word shame 0 of 1;");
        six.row(0, 0, 6);
        for (int i = 0; i < 6; i++) {
            due("six alike: day " + i, six.ordered(0, 0, i), i);
        }
        // what hurts on the last day alone is left: word 0 must come ahead of it
        GentleLetters turned = told(head(2, 1, 6, 100, 0) + "grades 0 99;hearer thinks 1 1;"
                + "word shame 0 of 1;word shame 0 of 0;");
        fill(turned, 0, 0, 1, 1, 1, 1, 1, 0);
        int[] last = {0, 1, 2, 3, 5, 4};
        for (int i = 0; i < 6; i++) {
            due("healed but on the last day: day " + i, turned.ordered(0, 0, i), last[i]);
        }
        // each word leaves one state out more: told from the last to the first, each step is 500 and hurts 2500
        GentleLetters back = told(head(7, 6, 6, 0, 0) + "grades 0 10 20 30 40 50 60;hearer thinks 1 1 1 1 1 1 1;"
                + "word shame 0 of 6;word shame 0 of 5 6;word shame 0 of 4 5 6;word shame 0 of 3 4 5 6;"
                + "word shame 0 of 2 3 4 5 6;word shame 0 of 1 2 3 4 5 6;");
        fill(back, 0, 0, 0, 1, 2, 3, 4, 5);
        due("six steps of 500", back.softer(0, 0), 6 * 2500);
        for (int i = 0; i < 6; i++) {
            due("the last of all orders: day " + i, back.ordered(0, 0, i), 5 - i);
        }
        says(25, "NONE: there is none such");
        due("day 2 of two", x.ordered(0, 0, 2), -1);
        due("day -1", x.ordered(0, 0, -1), -1);
        due("day MAX", x.ordered(0, 0, Integer.MAX_VALUE), -1);
        due("day 0 of none", week().ordered(0, 0, 0), -1);
        due("day 6 of six", six.ordered(0, 0, 6), -1);
        says(25, "-2, -6 likewise.");
        refusesRows((y, slot) -> y.ordered(slot, 0, 0));
        refusesRows((y, slot) -> y.ordered(slot, 0, 3));
        refusesHearers((y, hearer) -> y.ordered(0, hearer, 0));
        due("no such hearer, nothing", week(0).ordered(1, 2, 0), -2);
        GentleLetters seven = told(head(2, 1, 8, 0, 0) + "hearer thinks 1 1;word shame 0 of 1;");
        seven.row(0, 0, 7);
        due("seven", seven.ordered(0, 0, 0), -2);
        due("seven, no such day", seven.ordered(0, 0, 9), -2);
    }

    private static void hope() {
        says(35, "How likely a STATE is to a HEARER behind a SLOT's row, above (what 0), below (1).");
        GentleLetters x = week(0);
        due("{1 2}: 1 of 2, above", x.hope(0, 0, 2, 0), 1);
        due("{1 2}: 1 of 2, below", x.hope(0, 0, 2, 1), 2);
        due("not believed, above", x.hope(0, 0, 0, 0), 0);
        due("not believed, below", x.hope(0, 0, 0, 1), 1);
        GentleLetters y = week();
        due("none: 2 of 4, above", y.hope(0, 0, 0, 0), 1);
        due("none: 2 of 4, below", y.hope(0, 0, 0, 1), 2);
        due("none: hearer 1, above", y.hope(0, 1, 2, 0), 1);
        due("none: hearer 1, below", y.hope(0, 1, 2, 1), 1);
        says(35, "-2, -6 as hurts()");
        refusesRows((z, slot) -> z.hope(slot, 0, 0, 0));
        refusesRows((z, slot) -> z.hope(slot, 1, 2, 1));
        refusesHearers((z, hearer) -> z.hope(0, hearer, 0, 0));
        due("no such hearer, nothing", x.hope(1, 2, 0, 0), -2);
        says(35, ", no such STATE, what.");
        due("state 3", x.hope(0, 0, 3, 0), -2);
        due("state -1", x.hope(0, 0, -1, 0), -2);
        due("what 2", x.hope(0, 0, 0, 2), -2);
        due("what -1", x.hope(0, 0, 0, -1), -2);
        due("state 3, nothing", x.hope(1, 0, 3, 0), -2);
        due("what 2, nothing", x.hope(1, 0, 0, 2), -2);
    }
}
