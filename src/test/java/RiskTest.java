/** Term IV and promises 46 to 48: leaks ahead; each sentence by a test of its own. */
public final class RiskTest extends Kit {
    /** 4950 at first and 9900 if known: 245025 at once. */
    private static final String NO_WORDS = "grades 0 99;hearer thinks 1 1;";
    /** 13 at first, 100 by the lie, 200 by the truth: 349 at once, 75 and 100 by the lie. */
    private static final String SMALL = "grades 0 1 2;hearer thinks 20 1 1;word shame 0 of 2;word shame 173 of 1;";

    public static void main(String[] args) {
        leaks();
        risks();
        risk();
        now();
        soon();
        finish();
    }

    private static void leaks() {
        term("IV", "LEAKS: each day but day 0, ahead of its WORD, it is told all at once by others so often in a hundred (leak)");
        due("one day: never, so it is not known", told(head(2, 1, 1, 0, 100) + NO_WORDS).risk(0), 100000);
        due("two days, always on day 1", told(head(2, 1, 2, 0, 100) + NO_WORDS).risk(0), 245025);
        due("two days, half", told(head(2, 1, 2, 0, 50) + NO_WORDS).risk(0), 172512);
        due("two days, never", told(head(2, 1, 2, 0, 0) + NO_WORDS).risk(0), 100000);
        due("one in a hundred", told(head(2, 1, 2, 0, 1) + NO_WORDS).risk(0), (245025 + 9900000) / 100);
        // ahead of the word of day 1 all is told: a gentler word then comes too late
        due("always: the lie of day 0, then the leak", told(head(3, 2, 2, 0, 100) + SMALL).now(0, 0, 7), 1);
        due("of {1}: 75, 173 and 100", told(head(3, 2, 2, 0, 100) + SMALL).risk(0), 348);
        term("IV", ": HURT from BELIEF to what is KNOWN, then nothing more.");
        due("from {1} on day 1: 100", told(head(3, 2, 3, 0, 100) + SMALL).risk(0), 348);
        GentleLetters known = told(head(3, 2, 3, 0, 100) + SMALL);
        due("known already: silence and all words alike cost nothing, the true one is least", known.now(0, 1, 4), 0);
    }

    private static void risks() {
        term("IV", "RISK: from the last day back what is LEFT of HURTS to come and shame, in the mean");
        due("left of 349 on day 0: half", told(head(3, 2, 2, 50, 50) + SMALL).risk(0), 174);
        due("no leak: as the least week", told(head(3, 2, 4, 0, 0) + SMALL).risk(0), 348);
        GentleLetters shame = told(head(3, 2, 4, 0, 0) + SMALL.replace("173", "175"));
        due("a shame of 175 is too much", shame.risk(0), 349);
        term("IV", ": (leak times that by the leak and 100 less leak times that without) by 100, cut, each day");
        // (33 times 245025 and 67 times 100000) by 100 is 147858.25
        due("33 of a hundred, one day ahead", told(head(2, 1, 2, 0, 33) + NO_WORDS).risk(0), 147858);
        // (33 times 245025 and 67 times 147858) by 100 is 179923.11
        due("33 of a hundred, two days ahead", told(head(2, 1, 3, 0, 33) + NO_WORDS).risk(0), 179923);
        // 90 of 245025 is 220522 on day 1 of three: (33 times that and 67 times 147858) by 100 is 171837.12
        due("what the leak leaves is healed too", told(head(2, 1, 3, 10, 33) + NO_WORDS).risk(0), 171837);
        // 0 is so, and a leak hurts nobody: 99000, 98010, 97029.9
        GentleLetters cut = told(head(2, 0, 4, 0, 1) + "grades 0 99;hearer thinks 1 1;");
        due("99 of a hundred, three days ahead", cut.risk(0), 97029);
        GentleLetters often = told(head(2, 0, 6, 0, 7) + "grades 0 99;hearer thinks 1 1;");
        // 93000, 86490, 80435.7, 74804.55 (of 80435), 69567.72 (of 74804)
        due("cut each day, not at the end alone", often.risk(0), 69567);
        term("IV", "the least by any WORD that day");
        due("day 0: the lie", told(head(3, 2, 2, 0, 0) + SMALL).now(0, 0, 7), 1);
        due("day 1: the truth", told(head(3, 2, 2, 0, 0) + SMALL).now(0, 1, 7), 0);
        due("none is better than silence", told(head(2, 1, 1, 0, 0) + NO_WORDS + "word shame 0 of 1;").risk(0), 100000);
        term("IV", "behind the last day 100,000, if it is not KNOWN.");
        due("no words, no leak", told(head(2, 1, 10, 0, 0) + NO_WORDS).risk(0), 100000);
        due("known by a word", told(head(2, 1, 1, 0, 0) + "grades 0 9;hearer thinks 1 1;word shame 0 of 1;").risk(0), 2025);
        // 3150 squared by 100 is less than 100,000, 3200 squared by 100 is more
        String edge = "hearer thinks 1 1;word shame 0 of 1;";
        due("99225: it is told", told(head(2, 1, 1, 0, 0) + "grades 0 63;" + edge).risk(0), 99225);
        due("102400: it is not told", told(head(2, 1, 1, 0, 0) + "grades 0 64;" + edge).risk(0), 100000);
    }

    private static void risk() {
        says(46, "RISK (IV) of a HEARER from day 0 on, all believed.");
        due("the sample: 63000 and, by leak or word, 72000", told(SAMPLE).risk(0), 135000);
        due("hearer 1", told(SAMPLE).risk(1), 0);
        says(46, "-2: there is none such.");
        refusesHearers((x, hearer) -> x.risk(hearer));
    }

    private static void now() {
        GentleLetters x = told(SAMPLE);
        says(47, "The least WORD (SILENCE last) on a day by which it is, by a BELIEF then, no leak so far.");
        due("day 0, all", x.now(0, 0, 7), 0);
        due("day 1, all", x.now(0, 1, 7), 0);
        // 360000 by the truth on the last day, 100000 by silence or by any word that tells less, and 90000
        due("day 2, all: 152000 by silence, word 0 has 81000 and 90000", x.now(0, 2, 7), 8);
        due("day 3, all: silence, as word 0 would hurt and not tell", x.now(0, 3, 7), 8);
        due("day 3, {1 2}: 90000 is less than 100000", x.now(0, 3, 6), 1);
        due("day 3, known: word 0 is the least that costs nothing", x.now(0, 3, 4), 0);
        due("day 3, hearer 1: word 1 tells her", x.now(1, 3, 7), 1);
        GentleLetters none = told(head(2, 1, 2, 0, 50) + NO_WORDS);
        due("no words", none.now(0, 0, 3), 8);
        due("a belief that no words bring about", told(SAMPLE).now(0, 3, 5), 8);
        says(47, "-2: there are none such.");
        due("day 4", x.now(0, 4, 7), -2);
        due("day -1", x.now(0, -1, 7), -2);
        due("belief 0", x.now(0, 0, 0), -2);
        due("belief 8", x.now(0, 0, 8), -2);
        due("belief -1", x.now(0, 0, -1), -2);
        refusesHearers((y, hearer) -> y.now(hearer, 0, 7));
    }

    private static void soon() {
        GentleLetters x = told(SAMPLE);
        says(48, "SOON: the day on which telling all at once (SILENCE till then, no shame) costs least");
        due("each day leaves more", x.soon(0, 0), 0);
        says(48, ", with LEAKS as in RISK");
        due("ten days, leak 50", told(head(2, 1, 10, 5, 50) + NO_WORDS).soon(0, 0), 0);
        due("ten days, leak 50: 55 of a hundred are left", told(head(2, 1, 10, 5, 50) + NO_WORDS).soon(0, 1), 134763);
        says(48, ", the first of several (what 0)");
        due("heal 0: all days alike", told(head(2, 1, 5, 0, 30) + NO_WORDS).soon(0, 0), 0);
        due("it hurts her not", x.soon(1, 0), 0);
        says(48, ", how much (1).");
        due("70 of 360000", x.soon(0, 1), 252000);
        due("nothing", x.soon(1, 1), 0);
        due("heal 0", told(head(2, 1, 5, 0, 30) + NO_WORDS).soon(0, 1), 245025);
        due("one day", told(head(2, 1, 1, 50, 30) + NO_WORDS).soon(0, 1), 245025);
        says(48, "-2: there are none such.");
        due("what 2", x.soon(0, 2), -2);
        due("what -1", x.soon(0, -1), -2);
        refusesHearers((y, hearer) -> y.soon(hearer, 0));
        refusesHearers((y, hearer) -> y.soon(hearer, 1));
    }
}
