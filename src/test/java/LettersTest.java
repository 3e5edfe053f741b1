/** Promises 49 to 60: hearers who reckon, news joined in letters, whom to tell, letters read back. */
public final class LettersTest {
    public static void main(String[] args) {
        suspicions();
        reckonings();
        newsJoined();
        whomToTell();
        readBack();
        Kit.finish();
    }

    private static GentleLetters planned() {
        return Kit.told("desk states 4 really 3 days 5 heal 0 leak 0; grades 0 10 50 90;"
                + "hearer thinks 1 1 1 1 reckons 2; hearer thinks 1 1 1 1; hearer thinks 1 1 1 1 reckons 1;"
                + "word shame 0 of 1 2 3; word shame 0 of 2 3; word shame 0 of 3; word shame 0 of 0;"
                + "plan 0 1 2; plan 0 1; plan 0 3 1; plan 3;");
    }

    private static void suspicions() {
        GentleLetters x = planned();
        x.row(0, 0, 0);
        Kit.due("49: a row of none begins all", x.suspects(0), 15);
        Kit.fill(x, 0, 0, 8, 0, 8);
        Kit.due("49: 0, silence aside", x.suspects(0), 7);
        Kit.fill(x, 0, 0, 0, 1);
        Kit.due("49: 0 1", x.suspects(0), 3);
        Kit.fill(x, 0, 0, 0, 1, 8, 2);
        Kit.due("49: 0 1 2", x.suspects(0), 1);
        Kit.fill(x, 0, 0, 0, 1, 2, 2);
        Kit.due("49: more than any", x.suspects(0), 0);
        Kit.fill(x, 0, 0, 3);
        Kit.due("49: all of it", x.suspects(0), 8);
        Kit.due("49: nothing", x.suspects(1), -6);
        Kit.due("49: slot 4", x.suspects(4), -2);
        Kit.fill(x, 0, 0, 4);
        Kit.due("49: no word", x.suspects(0), -2);
    }

    private static void reckonings() {
        GentleLetters x = planned();
        // all: 3750. behind 0: 5000, behind 0 1: 7000, behind 0 1 2: 9000
        Kit.fill(x, 0, 0, 0, 8, 1, 2);
        Kit.due("50: two words fit two plans, three just one", x.knew(0, 0), 3);
        Kit.due("50: who does not reckon", x.knew(0, 1), -1);
        Kit.due("50: from one word on, three plans", x.knew(0, 2), 3);
        Kit.due("51: as told, it ends alike", x.reckoned(0, 0), 15625 + 40000 + 40000);
        Kit.due("51: who does not reckon", x.reckoned(0, 1), 15625 + 40000 + 40000);
        // 0 3: plan 2 alone; its end is behind 0 3 1: {2, 3}
        Kit.fill(x, 0, 0, 0, 3, 2, 8, 2);
        Kit.due("50: plan 2 from 0 3 on", x.knew(0, 0), 1);
        Kit.due("51: then 7000 whatever comes", x.reckoned(0, 0), 15625 + 40000);
        Kit.due("51: told, down to 0 and up to 9000", x.reckoned(0, 1), 15625 + 810000);
        // 3 is all of plan 3: one word is too few for her who reckons 2
        Kit.fill(x, 0, 0, 8, 3, 2);
        Kit.due("50: one word, reckons 1", x.knew(0, 2), 1);
        Kit.due("50: one word, reckons 2", x.knew(0, 0), -1);
        Kit.due("51: she stays there", x.reckoned(0, 2), 0);
        Kit.due("51: she does not", x.reckoned(0, 0), 810000);
        Kit.due("50: nothing", x.knew(1, 0), -6);
        Kit.due("50: hearer 3", x.knew(0, 3), -2);
        Kit.due("50: hearer 3 ahead of nothing", x.knew(1, 3), -2);
        Kit.due("51: nothing", x.reckoned(1, 0), -6);
        Kit.due("51: hearer -1", x.reckoned(0, -1), -2);
        Kit.due("52: ends(0)", x.ends(0), 8);
        Kit.due("52: ends(1)", x.ends(1), 12);
        Kit.due("52: ends(2)", x.ends(2), 12);
        Kit.due("52: ends(3)", x.ends(3), 1);
        Kit.due("52: ends(4)", x.ends(4), -2);
        Kit.due("52: ends(-1)", x.ends(-1), -2);
        GentleLetters y = Kit.told("desk states 2 really 0 days 2 heal 0 leak 0; hearer thinks 1 1 reckons 1;"
                + "word shame 0 of 0; plan 0; plan 0;");
        Kit.fill(y, 0, 0, 0);
        Kit.due("50: like plans are not just one", y.knew(0, 0), -1);
    }

    private static void newsJoined() {
        GentleLetters x = Kit.told(Kit.SAMPLE);
        // -10, 4, -3; heal 10 of 4 days: 70, 80, 90, 100 of a hundred are left
        Kit.due("53: 81 on day 0, cut", x.joined(1), 56);
        Kit.due("55: all()", x.all(), 56);
        // 10 less 4 on day 0: 36 is 25; 3 on day 1: 9 is 7
        Kit.due("53: two letters", x.joined(2), 32);
        Kit.due("54: bad", x.letter(2, 0), 0);
        Kit.due("54: good", x.letter(2, 1), 0);
        Kit.due("54: bad", x.letter(2, 2), 1);
        Kit.due("53: three letters, one empty", x.joined(3), 32);
        Kit.due("53: four letters", x.joined(4), 32);
        Kit.due("53: n 5", x.joined(5), -2);
        Kit.due("53: n 0", x.joined(0), -2);
        Kit.due("54: n 5", x.letter(5, 0), -2);
        Kit.due("54: n 0", x.letter(0, 0), -2);
        Kit.due("54: news 3", x.letter(2, 3), -2);
        Kit.due("54: news -1", x.letter(2, -1), -2);
        GentleLetters y = Kit.told("desk states 2 really 0 days 2 heal 0 leak 0; news good 9; news bad 5; news bad 5;");
        Kit.due("53: as many as days", y.joined(4), 1);
        Kit.due("54: the least row: together", y.letter(4, 2), 0);
        GentleLetters z = Kit.told("desk states 2 really 0 days 2 heal 50 leak 0; news good 9; news bad 5; news bad 5;"
                + "news bad 9;");
        // 19 less 9 is 10: 50 of it; 14 less 9 is 5 and 5 later: 12 and 25; 10 less 9 and 9 later: 0 and 81
        Kit.due("53: two letters of two days", z.joined(2), 37);
        Kit.due("54: good first", z.letter(2, 0), 0);
        Kit.due("54: 5 first", z.letter(2, 1), 0);
        Kit.due("54: 5 later", z.letter(2, 2), 1);
        Kit.due("54: 9 first", z.letter(2, 3), 0);
        GentleLetters none = Kit.told("desk states 2 really 0 days 2 heal 50 leak 0;");
        Kit.due("53: no news", none.joined(2), 0);
        Kit.due("55: no news", none.all(), 0);
        Kit.due("54: no news", none.letter(2, 0), -2);
        GentleLetters empty = new GentleLetters();
        Kit.due("53: no desk", empty.joined(1), -2);
        Kit.due("54: no desk", empty.letter(1, 0), -2);
        Kit.due("55: no desk", empty.all(), -2);
    }

    private static void whomToTell() {
        String four = "hearer thinks 1 1;hearer thinks 1 1;hearer thinks 1 1;hearer thinks 1 1;";
        GentleLetters x = Kit.told("desk states 2 really 0 days 3 heal 0 leak 0;" + four + "tells 3 2;tells 2 1;tells 1 0;");
        Kit.due("56: day 0", x.heard(8, 0), 8);
        Kit.due("56: day 1", x.heard(8, 1), 12);
        Kit.due("56: day 2", x.heard(8, 2), 14);
        Kit.due("56: day 3, behind the week", x.heard(8, 3), 15);
        Kit.due("56: a far day", x.heard(9, Integer.MAX_VALUE), 15);
        Kit.due("56: nobody", x.heard(0, 5), 0);
        Kit.due("56: set 16", x.heard(16, 0), -2);
        Kit.due("56: set -1", x.heard(-1, 0), -2);
        Kit.due("56: day -1", x.heard(1, -1), -2);
        Kit.due("57: two, as the days are too few for one", x.whom(), 2);
        Kit.due("58: 0 and 3", x.first(), 9);
        GentleLetters y = Kit.told("desk states 2 really 0 days 4 heal 0 leak 0;" + four + "tells 3 2;tells 2 1;tells 1 0;");
        Kit.due("57: one", y.whom(), 1);
        Kit.due("58: 3", y.first(), 8);
        GentleLetters z = Kit.told("desk states 2 really 0 days 1 heal 0 leak 0;" + four + "tells 3 2;");
        Kit.due("57: all on the one day", z.whom(), 4);
        Kit.due("58: all", z.first(), 15);
        GentleLetters nobody = Kit.told("desk states 2 really 0 days 1 heal 0 leak 0;");
        Kit.due("57: no hearers", nobody.whom(), 0);
        Kit.due("58: no hearers", nobody.first(), 0);
        Kit.due("56: no hearers", nobody.heard(0, 0), 0);
        Kit.due("56: none such", nobody.heard(1, 0), -2);
        GentleLetters empty = new GentleLetters();
        Kit.due("56: no desk", empty.heard(0, 0), -2);
        Kit.due("57: no desk", empty.whom(), -2);
        Kit.due("58: no desk", empty.first(), -2);
    }

    private static void readBack() {
        GentleLetters x = Kit.told(Kit.SAMPLE);
        Kit.fill(x, 0, 0, 8, 0, 8);
        Kit.due("59: 0", x.read(0), 6);
        Kit.due("60: 0", x.guess(0, 0), 6000);
        Kit.fill(x, 0, 0, 0, 2);
        Kit.due("59: 0 and 2 can't both be true", x.read(0), 0);
        Kit.due("60: none", x.guess(0, 0), -1);
        Kit.due("60: none, no such hearer", x.guess(0, 2), -2);
        Kit.fill(x, 0, 0, 2);
        Kit.due("60: thought 0, alike", x.guess(0, 1), 0);
        Kit.fill(x, 0, 0, 8);
        Kit.due("59: silence", x.read(0), 7);
        Kit.due("60: silence", x.guess(0, 0), 3000);
        Kit.due("59: nothing", x.read(1), -6);
        Kit.due("60: nothing", x.guess(1, 0), -6);
        Kit.due("60: hearer 2, nothing", x.guess(1, 2), -2);
        Kit.fill(x, 0, 0, 3);
        Kit.due("59: no word", x.read(0), -2);
        Kit.due("60: no word", x.guess(0, 0), -2);
        Kit.due("59: slot -1", x.read(-1), -2);
    }
}
