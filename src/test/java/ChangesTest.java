/** Of term VII, and promises 61 to 69: changes taken back, weeks drawn, counts, images; each sentence by a test of its own. */
public final class ChangesTest extends Kit {
    /** Draws of 68990: 87 80 73 64 56 55 48 27 30; of 2: 8 17 39 14 37 95 76 65 2; of 1: 38 58 13. */
    private static final int FALLING = 68990;

    public static void main(String[] args) {
        worsen();
        really();
        doubt();
        undo();
        draws();
        drawnWeeks();
        drawn();
        leaks();
        count();
        image();
        back();
        finish();
    }

    /** A desk with sixty changes that are not taken back. */
    private static GentleLetters sixty() {
        GentleLetters x = told(SAMPLE);
        for (int i = 0; i < 60; i++) {
            due("change " + i, x.worsen(0, i + 1), i);
        }
        return x;
    }

    private static void worsen() {
        GentleLetters x = told(SAMPLE);
        says(61, "The grade of a STATE is n (0 .. 99) from now on: what it was.");
        due("worsen(1, 60)", x.worsen(1, 60), 30);
        due("grade(1)", x.grade(1), 60);
        due("mean(0, 6)", x.mean(0, 6), 7500);
        due("worsen(1, 0)", x.worsen(1, 0), 60);
        due("worsen(1, 99)", x.worsen(1, 99), 0);
        due("worsen(1, 99) again", x.worsen(1, 99), 99);
        due("four changes", x.count(11), 4);
        due("grade(0) stays", x.grade(0), 0);
        says(61, "-5: there were 60 changes that are not taken back");
        GentleLetters full = sixty();
        due("a 61st", full.worsen(0, 5), -5);
        due("it stays", full.grade(0), 60);
        due("changes", full.count(11), 60);
        full.undo();
        due("one taken back", full.worsen(0, 5), 59);
        due("and no more", full.worsen(0, 6), -5);
        says(61, "-2: there are none such.");
        due("state 3", x.worsen(3, 0), -2);
        due("state -1", x.worsen(-1, 0), -2);
        due("n 100", x.worsen(1, 100), -2);
        due("n -1", x.worsen(1, -1), -2);
        due("changes", x.count(11), 4);
        due("of sixty, state 3", full.worsen(3, 5), -2);
        due("no desk", new GentleLetters().worsen(0, 0), -2);
    }

    private static void really() {
        GentleLetters x = told(SAMPLE);
        says(62, "Another STATE is really so from now on: which was.");
        due("really(1)", x.really(1), 2);
        due("count(1)", x.count(1), 1);
        due("word 1 is true no more", x.word(1, 2), 0);
        due("word 0 is", x.word(0, 2), 1);
        due("least(0)", x.least(0), -1);
        due("really(0)", x.really(0), 1);
        due("once(0)", x.once(0), 0);
        due("the same one is a change too", x.really(0), 0);
        due("changes", x.count(11), 3);
        says(62, "-5, -2 likewise.");
        GentleLetters full = sixty();
        due("a 61st", full.really(0), -5);
        due("it stays", full.count(1), 2);
        due("of sixty, state 3", full.really(3), -2);
        due("state 3", x.really(3), -2);
        due("state -1", x.really(-1), -2);
        due("no desk", new GentleLetters().really(0), -2);
    }

    private static void doubt() {
        GentleLetters x = told(SAMPLE);
        says(63, "What a HEARER thinks of a STATE is n (0 .. 20) from now on: what it was.");
        due("doubt(1, 2, 0)", x.doubt(1, 2, 0), 1);
        due("thinks(1, 2)", x.thinks(1, 2), 0);
        due("she thinks of none, all alike: 4000", x.mean(1, 7), 4000);
        due("doubt(0, 0, 20)", x.doubt(0, 0, 20), 2);
        due("thinks(0, 0)", x.thinks(0, 0), 20);
        due("hearer 1 stays", x.thinks(1, 0), 0);
        due("how she reckons stays", x.thinks(1, -1), 1);
        says(63, "-5, -2 likewise.");
        GentleLetters full = sixty();
        due("a 61st", full.doubt(0, 0, 5), -5);
        due("it stays", full.thinks(0, 0), 2);
        due("of sixty, n 21", full.doubt(0, 0, 21), -2);
        due("state 3", x.doubt(1, 3, 0), -2);
        due("state NONE", x.doubt(1, -1, 0), -2);
        due("n 21", x.doubt(1, 0, 21), -2);
        due("n -1", x.doubt(1, 0, -1), -2);
        refusesHearers((y, hearer) -> y.doubt(hearer, 0, 1));
    }

    private static void undo() {
        GentleLetters x = told(SAMPLE);
        x.worsen(1, 60);
        x.really(1);
        x.doubt(1, 2, 0);
        x.worsen(1, 61);
        says(64, "The latest of these changes is taken back: how many there are.");
        due("undo()", x.undo(), 3);
        due("grade(1)", x.grade(1), 60);
        due("undo()", x.undo(), 2);
        due("thinks(1, 2)", x.thinks(1, 2), 1);
        due("undo()", x.undo(), 1);
        due("really", x.count(1), 2);
        due("undo()", x.undo(), 0);
        due("grade(1)", x.grade(1), 30);
        due("least(0)", x.least(0), 135000);
        GentleLetters full = sixty();
        for (int i = 59; i >= 0; i--) {
            due("undo() of sixty", full.undo(), i);
            due("grade(0)", full.grade(0), i);
        }
        says(64, "-5: there is none");
        due("all are taken back", x.undo(), -5);
        due("none yet", told(SAMPLE).undo(), -5);
        GentleLetters y = told(SAMPLE);
        y.worsen(0, 5);
        y.worsen(3, 5);
        type(y, SAMPLE);
        y.desk();
        due("none of another desk", y.undo(), -5);
        says(64, "-2: there is no DESK.");
        due("undo()", new GentleLetters().undo(), -2);
        GentleLetters gone = told(SAMPLE);
        gone.worsen(0, 5);
        gone.desk();
        due("no more", gone.undo(), -2);
    }

    private static GentleLetters leaking(int days, int leak) {
        GentleLetters x = told(head(2, 1, days, 0, leak) + "grades 0 99;hearer thinks 1 1;word shame 0 of 0;");
        x.row(0, 0, 0);
        return x;
    }

    private static void draws() {
        term("VII", "DRAWS: x becomes (1103515245 x + 12345) modulo 2,147,483,648 (at first it is the seed)");
        int[] falling = {87, 80, 73, 64, 56, 55, 48, 27};
        for (int i = 0; i < falling.length; i++) {
            due("draw " + i + " is not below " + falling[i], leaking(i + 2, falling[i]).drawn(FALLING, 0, 0, 0), -1);
            due("draw " + i + " is below " + (falling[i] + 1), leaking(i + 2, falling[i] + 1).drawn(FALLING, 0, 0, 0), i + 1);
        }
        term("VII", "a draw: x / 65536, cut, modulo 100.");
        int[] seeds = {0, 1, 2, 3, 1999999999, 2000000000};
        int[] first = {0, 38, 8, 47, 33, 4};
        for (int i = 0; i < seeds.length; i++) {
            due("seed " + seeds[i] + " not", leaking(2, first[i]).drawn(seeds[i], 0, 0, 0), -1);
            due("seed " + seeds[i], leaking(2, first[i] + 1).drawn(seeds[i], 0, 0, 0), 1);
        }
    }

    private static void drawnWeeks() {
        term("VII", "WEEK drawn: each day of all but day 0 a draw: below leak it leaks (once)");
        due("leak 100: on day 1, not on day 0", leaking(10, 100).drawn(5, 0, 0, 0), 1);
        due("one day: never", leaking(1, 100).drawn(5, 0, 0, 0), -1);
        due("leak 0: never, by a draw of 0 too", leaking(10, 0).drawn(0, 0, 0, 0), -1);
        due("seed 2, ten days, leak 2", leaking(10, 2).drawn(2, 0, 0, 0), -1);
        due("seed 2, ten days, leak 3: the last day", leaking(10, 3).drawn(2, 0, 0, 0), 9);
        due("seed 2, nine days, leak 3", leaking(9, 3).drawn(2, 0, 0, 0), -1);
        due("once: of two draws below it the first", leaking(10, 100).drawn(FALLING, 0, 0, 1), 245025);
        term("VII", "behind a row there is SILENCE.");
        GentleLetters x = leaking(10, 3);
        fill(x, 0, 0, 0);
        due("{0} on day 0, 0 to 9900 by the leak on day 9", x.drawn(2, 0, 0, 1), 980100);
        GentleLetters y = leaking(10, 3);
        due("none: 4950 to 9900 on day 9", y.drawn(2, 0, 0, 1), 245025);
    }

    private static void drawn() {
        GentleLetters x = week(0, 8, 8, 2);
        says(65, "A week drawn (VII) from a seed (0 .. 2,000,000,000), a SLOT's row told in it");
        due("seed 0", x.drawn(0, 0, 0, 0), 1);
        due("seed 2,000,000,000", x.drawn(2000000000, 0, 0, 0), 1);
        due("seed 8: as told", x.drawn(8, 0, 0, 1), 90000);
        says(65, ", what 0: the day on which it leaks (NONE)");
        int[] days = {1, 3, 1, 2, 1, 3, 2, 2, -1, 3, 2, 2};
        for (int seed = 0; seed < days.length; seed++) {
            due("seed " + seed, x.drawn(seed, 0, 0, 0), days[seed]);
        }
        says(65, ", 1: HURTS of a HEARER, together");
        due("seed 8, no leak", x.drawn(8, 0, 0, 1), 90000);
        due("seed 3, on day 2", x.drawn(3, 0, 0, 1), 180000);
        due("hearer 1", x.drawn(3, 0, 1, 1), 0);
        says(65, "(the leak for a day's WORD, behind it nothing)");
        due("seed 1: not 2 but the leak on day 3", x.drawn(1, 0, 0, 1), 180000);
        fill(x, 0, 0, 2, 8, 1, 2);
        due("seed 3: {0}, then the leak on day 2", x.drawn(3, 0, 0, 1), 810000);
        fill(x, 0, 0, 8, 1, 2, 1);
        due("seed 0: the leak for 1, and no 2 nor 1 behind it", x.drawn(0, 0, 0, 1), 360000);
        due("seed 8: 1, 2 and 1", x.drawn(8, 0, 0, 1), 1170000);
        says(65, "-2, -6 as hurts()");
        refusesRows((y, slot) -> y.drawn(0, slot, 0, 0));
        refusesRows((y, slot) -> y.drawn(8, slot, 0, 1));
        refusesHearers((y, hearer) -> y.drawn(0, 0, hearer, 0));
        due("no such hearer, nothing", x.drawn(0, 1, 2, 0), -2);
        says(65, ", no such seed, what.");
        due("seed -1", x.drawn(-1, 0, 0, 0), -2);
        due("seed 2,000,000,001", x.drawn(2000000001, 0, 0, 0), -2);
        due("seed MAX", x.drawn(Integer.MAX_VALUE, 0, 0, 0), -2);
        due("seed MIN", x.drawn(Integer.MIN_VALUE, 0, 0, 0), -2);
        due("seed -1, nothing", x.drawn(-1, 1, 0, 0), -2);
        due("what 2", x.drawn(0, 0, 0, 2), -2);
        due("what -1", x.drawn(0, 0, 0, -1), -2);
        due("what 2, nothing", x.drawn(0, 1, 0, 2), -2);
    }

    private static void leaks() {
        GentleLetters x = told(SAMPLE);
        says(66, "Of n (1 .. 20) such from seeds, the seed and 1, .., in how many it leaks");
        due("12 from seed 0: all but that of 8", x.leaks(0, 12), 11);
        due("20 from seed 0", x.leaks(0, 20), 15);
        due("seed 8 alone", x.leaks(8, 1), 0);
        due("seeds 8 and 9", x.leaks(8, 2), 1);
        due("the last seed", x.leaks(2000000000, 1), 1);
        due("20 from the last seed on", x.leaks(2000000000, 20), 7);
        due("without hearers", told(head(2, 0, 2, 0, 100)).leaks(0, 20), 20);
        says(66, "(on a day of the week).");
        due("one day: never", told(head(2, 0, 1, 0, 100)).leaks(0, 20), 0);
        due("leak 0: never", told(head(2, 0, 10, 0, 0)).leaks(0, 20), 0);
        due("seed 2, leak 3, nine days", told(head(2, 0, 9, 0, 3)).leaks(2, 1), 0);
        due("seed 2, leak 3, ten days", told(head(2, 0, 10, 0, 3)).leaks(2, 1), 1);
        says(66, "-2: there are none such, no DESK.");
        due("n 0", x.leaks(0, 0), -2);
        due("n 21", x.leaks(0, 21), -2);
        due("n -1", x.leaks(0, -1), -2);
        due("seed -1", x.leaks(-1, 1), -2);
        due("seed 2,000,000,001", x.leaks(2000000001, 1), -2);
        due("seed MAX", x.leaks(Integer.MAX_VALUE, 20), -2);
        due("no desk", new GentleLetters().leaks(0, 1), -2);
    }

    private static void count() {
        GentleLetters x = told(SAMPLE);
        type(x, "abc");
        x.row(1, 0, 0);
        x.row(3, 2, 60);
        x.worsen(0, 1);
        says(67, "0 STATES, 1 the one that really is, 2 days, 3 heal, 4 leak");
        int[] due = {3, 2, 4, 10, 20, 2, 3, 2, 3, 13, 3, 1, 2};
        for (int what = 0; what <= 4; what++) {
            due("count(" + what + ")", x.count(what), due[what]);
        }
        says(67, ", 5 HEARERS, 6 WORDS, 7 PLANS, 8 NEWS, 9 LINES");
        for (int what = 5; what <= 9; what++) {
            due("count(" + what + ")", x.count(what), due[what]);
        }
        says(67, ", 10 bytes of the TAPE");
        due("three", x.count(10), 3);
        x.feed(0, 0, 0, 0, 0);
        due("and twenty", x.count(10), 23);
        says(67, ", 11 changes that are not taken back");
        due("one", x.count(11), 1);
        x.undo();
        due("none", x.count(11), 0);
        says(67, ", 12 SLOTS that have a row.");
        due("two, one of none among them", x.count(12), 2);
        x.row(1, 0, 5);
        due("in place of another", x.count(12), 2);
        x.row(0, 0, 5);
        x.row(2, 0, 5);
        due("all four", x.count(12), 4);
        due("with no desk too", rowsWithoutDesk(), 1);
        says(67, "NONE for others.");
        due("count(13)", x.count(13), -1);
        due("count(-1)", x.count(-1), -1);
        due("count(MIN)", x.count(Integer.MIN_VALUE), -1);
        due("count(MAX)", x.count(Integer.MAX_VALUE), -1);
        due("no desk", new GentleLetters().count(13), -1);
    }

    private static int rowsWithoutDesk() {
        GentleLetters x = new GentleLetters();
        x.row(2, 0, 1);
        return x.count(12);
    }

    private static void image() {
        says(68, "IMAGE k (0 .. 2) keeps the DESK, and changes: 0.");
        GentleLetters x = told(SAMPLE);
        x.worsen(1, 31);
        for (int k = 0; k < 3; k++) {
            due("image(" + k + ")", x.image(k), 0);
            x.worsen(1, 40 + k);
        }
        for (int k = 2; k >= 0; k--) {
            x.back(k);
            due("changes of " + k, x.count(11), k + 1);
            due("grade of " + k, x.grade(1), k == 0 ? 31 : 39 + k);
        }
        x.worsen(1, 50);
        due("once more in place of it", x.image(0), 0);
        x.back(2);
        x.back(0);
        due("its grade", x.grade(1), 50);
        GentleLetters great = told(WildTest.GREAT);
        great.image(2);
        great.desk();
        great.back(2);
        due("all lines of a great desk", great.count(9), 28);
        due("its last thought", great.thinks(3, 7), 8);
        due("its last reckoning", great.thinks(3, -1), 5);
        due("its last word", great.word(7, 0), 999);
        due("its last word's states", great.word(7, 1), 64);
        due("its first plan's last word", great.plan(0, 4), 4);
        due("its last plan", great.plan(3, 0), 5);
        due("its last plan's end", great.plan(3, 1), -1);
        due("its last news", great.news(5), -60);
        due("whom its last hearer tells", great.tells(3), 1);
        due("its last grade", great.grade(7), 99);
        due("of no desk", new GentleLetters().image(2), 0);
        says(68, "-2: no such k.");
        due("image(3)", x.image(3), -2);
        due("image(-1)", x.image(-1), -2);
        due("image(MAX)", x.image(Integer.MAX_VALUE), -2);
        due("image(MIN)", x.image(Integer.MIN_VALUE), -2);
        due("no desk", new GentleLetters().image(3), -2);
    }

    private static void back() {
        says(69, "It is as IMAGE k has it: 0.");
        GentleLetters x = new GentleLetters();
        x.image(0);
        type(x, SAMPLE);
        x.desk();
        x.worsen(1, 31);
        x.worsen(1, 32);
        x.image(1);
        x.undo();
        x.really(0);
        x.doubt(0, 0, 9);
        x.doubt(0, 1, 9);
        type(x, "xy");
        x.row(0, 0, 2);
        due("back(1)", x.back(1), 0);
        due("grade", x.grade(1), 32);
        due("really", x.count(1), 2);
        due("thinks", x.thinks(0, 0), 2);
        due("changes", x.count(11), 2);
        due("the tape is no part of it", x.count(10), 2);
        due("nor are the slots", x.count(12), 1);
        due("its changes can be taken back", x.undo(), 1);
        due("grade", x.grade(1), 31);
        x.end(0);
        x.desk();
        due("no desk now", x.count(9), 0);
        due("back(1) again", x.back(1), 0);
        int[] due = {3, 2, 4, 10, 20, 2, 3, 2, 3, 13};
        for (int what = 0; what < due.length; what++) {
            due("count(" + what + ")", x.count(what), due[what]);
        }
        due("the image was not changed since", x.grade(1), 32);
        due("word", x.word(0, 1), 6);
        due("shame", x.word(2, 0), 20);
        due("plan", x.plan(0, 1), 1);
        due("news", x.news(0), -10);
        due("tells", x.tells(0), 2);
        due("reckons", x.thinks(1, -1), 1);
        due("undo()", x.undo(), 1);
        due("undo()", x.undo(), 0);
        due("grade", x.grade(1), 30);
        due("back(0) to no desk", x.back(0), 0);
        due("states", x.count(0), 0);
        due("changes", x.count(11), 0);
        due("grade(0)", x.grade(0), -2);
        says(69, "-2: no such k");
        due("back(3)", x.back(3), -2);
        due("back(-1)", x.back(-1), -2);
        due("back(MAX)", x.back(Integer.MAX_VALUE), -2);
        due("back(MIN)", x.back(Integer.MIN_VALUE), -2);
        says(69, "-6: it has nothing.");
        due("back(2)", x.back(2), -6);
        for (int k = 0; k < 3; k++) {
            due("back(" + k + ") of a new object", new GentleLetters().back(k), -6);
        }
        GentleLetters y = told(SAMPLE);
        y.worsen(0, 1);
        y.back(0);
        due("the desk stays", y.grade(0), 1);
    }
}
