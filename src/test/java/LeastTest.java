/** Of term III, and promises 26 to 34 and 36: the least and the gentlest weeks; each sentence by a test of its own. */
public final class LeastTest extends Kit {
    /** 677 at first, 5000 by the lie, 9900 by the truth: a lie on the way softens the step. */
    private static final String LIE = "grades 0 50 99;hearer thinks 20 1 1;word shame 100 of 2;word shame 999 of 1;";
    private static final int STRAIGHT = 9223 * 9223 / 100;
    private static final int TO_LIE = 4323 * 4323 / 100;
    private static final int TO_TRUTH = 4900 * 4900 / 100;
    /** By one word it is never known, by both it is. */
    private static final String TWO_WORDS = "grades 5 6 7;hearer thinks 1 1 1;word shame 1 of 0 1;word shame 1 of 1 2;";
    /** True words never part 0 from 1. */
    private static final String NEVER_TRULY = "grades 0 10 20;hearer thinks 1 1 1;word shame 4 of 0 1;word shame 5 of 1 2;";

    public static void main(String[] args) {
        costs();
        leastAndFirst();
        gentlestTerm();
        rest();
        least();
        step();
        truly();
        honest();
        gentlest();
        gently();
        tender();
        tenderly();
        fewest();
        finish();
    }

    /** The words of a week day by day, as one number. */
    private static int digits(int days, HearerCall wordOnDay, GentleLetters x) {
        int all = 0;
        for (int day = 0; day < days; day++) {
            all = all * 10 + wordOnDay.of(x, day);
        }
        return all;
    }

    private static GentleLetters lie(int days, int heal) {
        return told(head(3, 2, days, heal, 0) + LIE);
    }

    /** 13 at first: 349 straight to 200; 75 and 100 by a lie of 100, and its shame. */
    private static GentleLetters smallLie(int days, int heal, int shame) {
        return told(head(3, 2, days, heal, 0) + "grades 0 1 2;hearer thinks 20 1 1;word shame 0 of 2;word shame "
                + shame + " of 1;");
    }

    private static void costs() {
        term("III", "COST of a WEEK of all days for a HEARER: LEFT of all HURTS and all shame");
        due("75, 100 and a shame of 173", smallLie(3, 0, 173).least(0), 348);
        due("75, 100 and a shame of 175 are more than 349", smallLie(3, 0, 175).least(0), 349);
        due("half of 75 is 37, 100, 36: less than half of 349", smallLie(2, 50, 36).least(0), 173);
        due("37, 100, 38: more than 174", smallLie(2, 50, 38).least(0), 174);
        due("the shame of a true word is not paid", lie(1, 0).least(0), STRAIGHT);
    }

    private static void leastAndFirst() {
        term("III", "LEAST: of those by which it is KNOWN at the END");
        due("silence would cost nothing", lie(1, 0).least(0), STRAIGHT);
        GentleLetters x = told(head(3, 1, 2, 0, 0) + TWO_WORDS);
        due("600 to 600, by 550 or 650: 25", x.least(0), 25);
        due("on one day not", told(head(3, 1, 1, 0, 0) + TWO_WORDS).least(0), -1);
        term("III", "the first: the least row (SILENCE is the greatest).");
        GentleLetters equal = smallLie(3, 0, 174);
        due("349 either way", equal.least(0), 349);
        due("0 0 0 is less than 1 0 0", digits(3, (y, day) -> y.step(0, day), equal), 0);
        due("0 0 0 is less than 0 8 8", digits(3, (y, day) -> y.step(0, day), lie(3, 0)), 100);
        GentleLetters calm = told(SAMPLE);
        due("nothing hurts her: known by the last word", digits(4, (y, day) -> y.step(1, day), calm), 1);
    }

    private static void gentlestTerm() {
        term("III", "GENTLEST: the least that the greatest HURT (not LEFT) is so, shame aside.");
        due("the greater of the two, without 999", lie(4, 0).gentlest(0), TO_TRUTH);
        due("not what is left of it", lie(4, 100).gentlest(0), TO_TRUTH);
        due("all is healed but on the last day", lie(4, 100).least(0), 0);
        due("one day: straight", lie(1, 0).gentlest(0), STRAIGHT);
    }

    private static void rest() {
        says(26, "The most days of SILENCE one behind the other in the first LEAST WEEK (III).");
        // whatever is said on such a day instead, a true word said before, is less than silence
        due("the sample", told(SAMPLE).rest(0), 0);
        due("she whom nothing hurts", told(SAMPLE).rest(1), 0);
        due("ten days, a lie on the way", lie(10, 0).rest(0), 0);
        due("ten days, healed", lie(10, 100).rest(0), 0);
        says(26, "NONE: there is none");
        due("by one word never", told(head(3, 1, 1, 0, 0) + TWO_WORDS).rest(0), -1);
        due("no words", told(head(2, 0, 3, 0, 0) + "hearer thinks 1 1;").rest(0), -1);
        says(26, "-2: there is no such HEARER.");
        refusesHearers((x, hearer) -> x.rest(hearer));
    }

    private static void least() {
        says(27, "LEAST (III) of a HEARER.");
        due("63000 and 72000", told(SAMPLE).least(0), 135000);
        due("hearer 1", told(SAMPLE).least(1), 0);
        due("by a lie", lie(4, 0).least(0), TO_LIE + TO_TRUTH + 999);
        due("by a lie on ten days", lie(10, 0).least(0), TO_LIE + TO_TRUTH + 999);
        due("the first state is so: 1600 to 8000", told(head(3, 0, 1, 0, 0) + "grades 80 0 10;hearer thinks 1 4 0;"
                + "word shame 9 of 0;").least(0), 6400L * 6400 / 100);
        due("by a lie, half of the first healed", lie(2, 50).least(0), TO_LIE / 2 + TO_TRUTH + 999);
        says(27, "NONE: by no WEEK it is KNOWN");
        due("one day, two words", told(head(3, 1, 1, 0, 0) + TWO_WORDS).least(0), -1);
        due("no words", told(head(2, 0, 3, 0, 0) + "hearer thinks 1 1;").least(0), -1);
        GentleLetters x = told(SAMPLE);
        x.really(1);
        due("1 stands in no word but with 2", x.least(0), -1);
        says(27, "-2: there is none such.");
        refusesHearers((y, hearer) -> y.least(hearer));
    }

    private static void step() {
        says(28, "The WORD (8: SILENCE) on a day by the first such.");
        due("the sample", digits(4, (x, day) -> x.step(0, day), told(SAMPLE)), 100);
        due("hearer 1", digits(4, (x, day) -> x.step(1, day), told(SAMPLE)), 1);
        due("the lie, the truth, and so on", digits(4, (x, day) -> x.step(0, day), lie(4, 0)), 1000);
        due("one day", lie(1, 0).step(0, 0), 0);
        due("healed: the truth at once", digits(3, (x, day) -> x.step(0, day), lie(3, 100)), 0);
        says(28, "NONE likewise");
        GentleLetters never = told(head(3, 1, 1, 0, 0) + TWO_WORDS);
        due("day 0", never.step(0, 0), -1);
        says(28, "-2: there are none such.");
        refusesHearers((x, hearer) -> x.step(hearer, 0));
        GentleLetters x = told(SAMPLE);
        due("day -1", x.step(0, -1), -2);
        due("day 4", x.step(0, 4), -2);
        due("day MAX", x.step(0, Integer.MAX_VALUE), -2);
        due("no week, day 1", never.step(0, 1), -2);
        due("day 9 of ten", lie(10, 0).step(0, 9), 0);
        due("day 10 of ten", lie(10, 0).step(0, 10), -2);
    }

    private static void truly() {
        says(29, "LEAST by TRUE WORDS (and SILENCE) alone.");
        due("without the lie", lie(4, 0).truly(0), STRAIGHT);
        due("a quarter of it healed a day, on day 0", lie(4, 25).truly(0), STRAIGHT * 25 / 100);
        due("the sample", told(SAMPLE).truly(0), 135000);
        says(29, "NONE, -2 likewise.");
        due("0 and 1 are not parted", told(head(3, 0, 3, 0, 0) + NEVER_TRULY).truly(0), -1);
        due("no words", told(head(2, 0, 3, 0, 0) + "hearer thinks 1 1;").truly(0), -1);
        refusesHearers((x, hearer) -> x.truly(hearer));
    }

    private static void honest() {
        says(30, "The WORD on a day by the first such.");
        due("the truth at once", digits(4, (x, day) -> x.honest(0, day), lie(4, 0)), 0);
        due("the sample", digits(4, (x, day) -> x.honest(0, day), told(SAMPLE)), 100);
        GentleLetters last = told(head(3, 2, 3, 0, 0) + "grades 0 50 99;hearer thinks 20 1 1;word shame 9 of 0;"
                + "word shame 9 of 1;word shame 9 of 2;");
        due("word 2 alone is true", digits(3, (x, day) -> x.honest(0, day), last), 222);
        says(30, "NONE, -2 likewise.");
        GentleLetters never = told(head(3, 0, 3, 0, 0) + NEVER_TRULY);
        due("no week", never.honest(0, 2), -1);
        due("no week, day 3", never.honest(0, 3), -2);
        GentleLetters x = told(SAMPLE);
        due("day -1", x.honest(0, -1), -2);
        due("day 4", x.honest(0, 4), -2);
        refusesHearers((y, hearer) -> y.honest(hearer, 0));
    }

    private static void gentlest() {
        says(31, "GENTLEST (III).");
        due("the sample", told(SAMPLE).gentlest(0), 90000);
        due("hearer 1", told(SAMPLE).gentlest(1), 0);
        due("by a lie", lie(2, 0).gentlest(0), TO_TRUTH);
        says(31, "NONE, -2 likewise.");
        due("one day, two words", told(head(3, 1, 1, 0, 0) + TWO_WORDS).gentlest(0), -1);
        refusesHearers((x, hearer) -> x.gentlest(hearer));
    }

    private static void gently() {
        says(32, "The WORD on a day by the first such WEEK.");
        // 0 0 0 1: any row of 0 ahead of the last 1 hurts 90000 at most
        due("the sample", digits(4, (x, day) -> x.gently(0, day), told(SAMPLE)), 1);
        // the lie may come on any day: first the truth would hurt too much, so it is 1 0 0 0
        due("by a lie", digits(4, (x, day) -> x.gently(0, day), lie(4, 0)), 1000);
        // the greatest hurt is had on day 1 at the latest; ahead of it the least words that do no worse
        GentleLetters x = told(head(3, 2, 3, 0, 0) + "grades 0 40 80;hearer thinks 1 1 1;word shame 9 of 1 0;"
                + "word shame 9 of 1;word shame 9 of 2;");
        due("0 hurts not, then 1 by 40000, 2 by 160000", x.gentlest(0), 160000);
        due("0 1 2: less than 1 .. and 2 ..", digits(3, (y, day) -> y.gently(0, day), x), 12);
        says(32, "NONE, -2 likewise.");
        GentleLetters never = told(head(3, 1, 1, 0, 0) + TWO_WORDS);
        due("no week", never.gently(0, 0), -1);
        due("no week, day 1", never.gently(0, 1), -2);
        GentleLetters sample = told(SAMPLE);
        due("day -1", sample.gently(0, -1), -2);
        due("day 4", sample.gently(0, 4), -2);
        refusesHearers((y, hearer) -> y.gently(hearer, 0));
    }

    private static void tender() {
        says(33, "GENTLEST by TRUE WORDS (and SILENCE) alone.");
        due("without the lie", lie(4, 0).tender(0), STRAIGHT);
        due("not what is left", lie(4, 100).tender(0), STRAIGHT);
        due("the sample", told(SAMPLE).tender(0), 90000);
        says(33, "NONE, -2 likewise.");
        due("0 and 1 are not parted", told(head(3, 0, 3, 0, 0) + NEVER_TRULY).tender(0), -1);
        refusesHearers((x, hearer) -> x.tender(hearer));
    }

    private static void tenderly() {
        says(34, "The WORD on a day by the first such WEEK.");
        due("the truth", digits(4, (x, day) -> x.tenderly(0, day), lie(4, 0)), 0);
        due("the sample", digits(4, (x, day) -> x.tenderly(0, day), told(SAMPLE)), 1);
        GentleLetters last = told(head(3, 2, 3, 0, 0) + "grades 0 50 99;hearer thinks 20 1 1;word shame 9 of 0;"
                + "word shame 9 of 1;word shame 9 of 2;");
        due("word 2 alone is true", digits(3, (x, day) -> x.tenderly(0, day), last), 222);
        says(34, "NONE, -2 likewise.");
        GentleLetters never = told(head(3, 0, 3, 0, 0) + NEVER_TRULY);
        due("no week", never.tenderly(0, 0), -1);
        due("no week, day 3", never.tenderly(0, 3), -2);
        GentleLetters x = told(SAMPLE);
        due("day -1", x.tenderly(0, -1), -2);
        due("day 4", x.tenderly(0, 4), -2);
        refusesHearers((y, hearer) -> y.tenderly(hearer, 0));
    }

    /** Each of seven words leaves one state out: all seven are needed. */
    private static String allButOne() {
        StringBuilder text = new StringBuilder();
        for (int out = 0; out < 7; out++) {
            text.append("word shame 0 of");
            for (int state = 0; state < 8; state++) {
                text.append(state == out ? "" : " " + state);
            }
            text.append(';');
        }
        return text.toString();
    }

    private static void fewest() {
        says(36, "The fewest WORDS (SILENCE aside) of a WEEK of all days by which it is KNOWN.");
        due("the sample: word 1", told(SAMPLE).fewest(), 1);
        due("two words on two days", told(head(3, 1, 2, 0, 0) + TWO_WORDS).fewest(), 2);
        due("two words on ten days", told(head(3, 1, 10, 0, 0) + TWO_WORDS).fewest(), 2);
        due("seven words on seven days", told(head(8, 7, 7, 0, 0) + allButOne()).fewest(), 7);
        due("hearers are not asked", told(head(2, 0, 1, 0, 0) + "word shame 0 of 0;").fewest(), 1);
        GentleLetters asked = told(head(8, 7, 7, 0, 0) + "hearer thinks 1 1 1 1 1 1 1 1;" + allButOne());
        for (int belief = 1; belief <= 255; belief += 6) {
            asked.now(0, 0, belief);
        }
        due("behind many other calls", asked.fewest(), 7);
        says(36, "NONE: by none");
        due("two words on one day", told(head(3, 1, 1, 0, 0) + TWO_WORDS).fewest(), -1);
        due("seven words on six days", told(head(8, 7, 6, 0, 0) + allButOne()).fewest(), -1);
        due("a state of no word alone", told(head(8, 6, 10, 0, 0) + allButOne()).fewest(), -1);
        due("no words", told(head(2, 0, 5, 0, 0)).fewest(), -1);
        says(36, "-2: there is no DESK.");
        due("fewest()", new GentleLetters().fewest(), -2);
    }
}
