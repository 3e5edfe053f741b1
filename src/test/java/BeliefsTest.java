/** Term II and promises 12 to 16: beliefs, means, single steps; each sentence by a test of its own. */
public final class BeliefsTest extends Kit {
    public static void main(String[] args) {
        beliefs();
        meansAndHurts();
        truth();
        mean();
        chance();
        behind();
        hurt();
        softest();
        finish();
    }

    /** Hearer 0 of the sample: all is 3000, {1 2} 6000, {2} 9000, {0} 0, {1} 3000, {0 1} 1000, {0 2} 3000. */
    private static void beliefs() {
        GentleLetters x = week();
        term("II", "BELIEF: a set of STATES, as bits, all at first.");
        due("a row of none", x.believes(0), 7);
        GentleLetters eight = told(head(8, 0, 1, 0, 0));
        fill(eight, 0, 0, 8);
        due("eight states", eight.believes(0), 255);
        GentleLetters two = told(head(2, 0, 1, 0, 0));
        fill(two, 0, 0, 8);
        due("two states", two.believes(0), 3);
        term("II", "Behind a WORD: the STATES of it that were in it");
        due("{1 2} of all", x.behind(7, 0), 6);
        due("{1 2} of {0 2}", x.behind(5, 0), 4);
        due("{1 2} of {0 1}", x.behind(3, 0), 2);
        due("{2} of {2}", x.behind(4, 1), 4);
        term("II", "if there are none, all the WORD's.");
        due("{1 2} of {0}", x.behind(1, 0), 6);
        due("{0} of {1 2}", x.behind(6, 2), 1);
        term("II", "SILENCE (8): as it was.");
        for (int belief = 1; belief <= 7; belief++) {
            due("silence of " + belief, x.behind(belief, 8), belief);
        }
    }

    private static void meansAndHurts() {
        GentleLetters x = told(SAMPLE);
        term("II", "MEAN of a HEARER by a BELIEF: 100 times the grades by what she thinks of these STATES");
        due("all: 120 of 4", x.mean(0, 7), 3000);
        due("{1 2}: 120 of 2", x.mean(0, 6), 6000);
        due("{0 2}: 90 of 3", x.mean(0, 5), 3000);
        due("she who thinks of 2 alone", x.mean(1, 7), 9000);
        GentleLetters most = told(head(8, 0, 1, 0, 0) + "grades 99 99 99 99 99 99 99 99;"
                + "hearer thinks 20 20 20 20 20 20 20 20;");
        due("the most of all", most.mean(0, 255), 9900);
        term("II", "(of all alike, if that is 0 for all)");
        due("{0 1}, of which she thinks nothing", x.mean(1, 3), 1500);
        due("{0}", x.mean(1, 1), 0);
        due("{1}", x.mean(1, 2), 3000);
        due("one of them above 0: the others count for nothing", x.mean(1, 6), 9000);
        GentleLetters three = told(head(4, 0, 1, 0, 0) + "grades 10 20 21 99;hearer thinks 0 0 0 1;");
        due("51 of three, alike", three.mean(0, 7), 1700);
        term("II", ", cut. HURT");
        GentleLetters y = told(head(3, 0, 1, 0, 0) + "grades 1 2 0;hearer thinks 20 2 0;hearer thinks 0 0 1;");
        due("2400 of 22 is 109 and some", y.mean(0, 3), 109);
        GentleLetters z = told(head(3, 0, 1, 0, 0) + "grades 0 0 2;hearer thinks 1 1 1;");
        due("200 of 3 is 66 and some", z.mean(0, 7), 66);
        term("II", "HURT of a step: how much MEAN rises, squared, by 100, cut");
        due("3000 to 6000", x.hurt(0, 7, 0), 90000);
        due("3000 to 9000", x.hurt(0, 7, 1), 360000);
        due("0 to 9000", x.hurt(0, 1, 1), 810000);
        GentleLetters w = told(head(3, 0, 1, 0, 0) + "grades 1 2 0;hearer thinks 20 2 0;"
                + "word shame 0 of 0;word shame 0 of 1;");
        due("109 to 200: 8281 by 100", w.hurt(0, 3, 1), 82);
        GentleLetters far = told(head(2, 0, 1, 0, 0) + "grades 0 99;hearer thinks 1 1;word shame 0 of 1;");
        due("0 to 9900", far.hurt(0, 1, 0), 980100);
        GentleLetters small = told(head(2, 0, 1, 0, 0) + "grades 0 1;hearer thinks 2 18;hearer thinks 1 19;word shame 0 of 1;");
        due("90 to 100: 100 by 100", small.hurt(0, 3, 0), 1);
        due("95 to 100: 25 by 100", small.hurt(1, 3, 0), 0);
        term("II", "0 if it does not rise.");
        due("3000 to 0", x.hurt(0, 7, 2), 0);
        due("9000 to 0", x.hurt(0, 4, 2), 0);
        due("silence", x.hurt(0, 7, 8), 0);
        due("9000 to 9000", x.hurt(1, 7, 1), 0);
    }

    private static void truth() {
        term("II", "A WORD is TRUE, if the STATE that really is is one of its");
        GentleLetters x = told(SAMPLE);
        due("{1 2}, 2 is so", x.word(0, 2), 1);
        due("{0}, 2 is so", x.word(2, 2), 0);
        x.really(0);
        due("{1 2}, 0 is so", x.word(0, 2), 0);
        due("{0}, 0 is so", x.word(2, 2), 1);
        GentleLetters last = told(head(8, 7, 1, 0, 0) + "word shame 0 of 7;word shame 0 of 0 1 2 3 4 5 6;");
        due("{7}, 7 is so", last.word(0, 2), 1);
        due("all but 7, 7 is so", last.word(1, 2), 0);
        term("II", "else its shame is paid.");
        GentleLetters y = week(0, 1, 2, 2);
        due("20 and 20 of words that are not true", y.shames(0), 40);
        y.really(0);
        due("50 and 70 now", y.shames(0), 120);
    }

    private static void mean() {
        GentleLetters x = told(SAMPLE);
        says(12, "MEAN of a HEARER by a BELIEF (1 and above).");
        due("mean(0, 1)", x.mean(0, 1), 0);
        due("mean(0, 2)", x.mean(0, 2), 3000);
        due("mean(0, 3)", x.mean(0, 3), 1000);
        due("mean(0, 7)", x.mean(0, 7), 3000);
        says(12, "-2: there are none such.");
        due("belief 0", x.mean(0, 0), -2);
        due("belief -1", x.mean(0, -1), -2);
        due("belief 8", x.mean(0, 8), -2);
        due("belief MIN", x.mean(0, Integer.MIN_VALUE), -2);
        due("belief MAX", x.mean(0, Integer.MAX_VALUE), -2);
        GentleLetters eight = told(head(8, 0, 1, 0, 0) + "hearer thinks 1 1 1 1 1 1 1 1;");
        due("belief 255 of eight states", eight.mean(0, 255), 0);
        due("belief 256 of eight states", eight.mean(0, 256), -2);
        refusesHearers((y, hearer) -> y.mean(hearer, 1));
    }

    private static void chance() {
        GentleLetters x = told(SAMPLE);
        says(13, "How likely a STATE is to a HEARER by a BELIEF, above (what 0), below (1).");
        due("1 of 4, above", x.chance(0, 7, 1, 0), 1);
        due("1 of 4, below", x.chance(0, 7, 1, 1), 4);
        due("2 of 4 in lowest terms, above", x.chance(0, 7, 0, 0), 1);
        due("2 of 4 in lowest terms, below", x.chance(0, 7, 0, 1), 2);
        due("2 of 3, above", x.chance(0, 3, 0, 0), 2);
        due("2 of 3, below", x.chance(0, 3, 0, 1), 3);
        due("alone, above", x.chance(0, 4, 2, 0), 1);
        due("alone, below", x.chance(0, 4, 2, 1), 1);
        due("not believed, above", x.chance(0, 6, 0, 0), 0);
        due("not believed, below", x.chance(0, 6, 0, 1), 1);
        due("thought 0, above", x.chance(1, 7, 0, 0), 0);
        due("thought 0, below", x.chance(1, 7, 0, 1), 1);
        due("all alike, above", x.chance(1, 3, 0, 0), 1);
        due("all alike, below", x.chance(1, 3, 0, 1), 2);
        due("all alike, not believed, above", x.chance(1, 3, 2, 0), 0);
        due("all alike, not believed, below", x.chance(1, 3, 2, 1), 1);
        says(13, "-2: there are none such.");
        due("what 2", x.chance(0, 7, 1, 2), -2);
        due("what -1", x.chance(0, 7, 1, -1), -2);
        due("state 3", x.chance(0, 7, 3, 0), -2);
        due("state -1", x.chance(0, 7, -1, 0), -2);
        due("belief 0", x.chance(0, 0, 1, 0), -2);
        due("belief 8", x.chance(0, 8, 1, 0), -2);
        due("belief -1", x.chance(0, -1, 1, 0), -2);
        refusesHearers((y, hearer) -> y.chance(hearer, 1, 0, 0));
    }

    private static void behind() {
        GentleLetters x = told(SAMPLE);
        says(14, "BELIEF behind a WORD (8: SILENCE).");
        due("behind(7, 0)", x.behind(7, 0), 6);
        due("behind(1, 1)", x.behind(1, 1), 4);
        due("behind(5, 8)", x.behind(5, 8), 5);
        due("silence, where there are no words", told(head(2, 0, 1, 0, 0)).behind(3, 8), 3);
        says(14, "-2: there are none such.");
        due("word 3", x.behind(5, 3), -2);
        due("word 7", x.behind(5, 7), -2);
        due("word 9", x.behind(5, 9), -2);
        due("word -1", x.behind(5, -1), -2);
        due("belief 0", x.behind(0, 0), -2);
        due("belief 0, silence", x.behind(0, 8), -2);
        due("belief 8", x.behind(8, 0), -2);
        due("belief -1", x.behind(-1, 0), -2);
        due("no desk", new GentleLetters().behind(1, 8), -2);
    }

    private static void hurt() {
        GentleLetters x = told(SAMPLE);
        says(15, "HURT of that step.");
        due("hurt(0, 7, 0)", x.hurt(0, 7, 0), 90000);
        due("hurt(0, 6, 1)", x.hurt(0, 6, 1), 90000);
        due("hurt(0, 7, 8)", x.hurt(0, 7, 8), 0);
        due("hurt(1, 1, 0): {1 2}, 9000", x.hurt(1, 1, 0), 810000);
        says(15, "-2: there are none such.");
        due("word 3", x.hurt(0, 7, 3), -2);
        due("word -1", x.hurt(0, 7, -1), -2);
        due("word 9", x.hurt(0, 7, 9), -2);
        due("belief 0", x.hurt(0, 0, 0), -2);
        due("belief 8", x.hurt(0, 8, 0), -2);
        refusesHearers((y, hearer) -> y.hurt(hearer, 7, 8));
    }

    private static void softest() {
        GentleLetters x = told(SAMPLE);
        says(16, "The WORD (not SILENCE) that hurts least from a BELIEF");
        due("from all, the mean falls by word 2", x.softest(0, 7), 2);
        GentleLetters hard = told(head(2, 0, 1, 0, 0) + "grades 0 9;hearer thinks 1 1;word shame 0 of 1;");
        due("though silence would hurt less", hard.softest(0, 3), 0);
        says(16, ", the first of several.");
        due("she whom none hurts", x.softest(1, 7), 0);
        due("from {2}", x.softest(0, 4), 0);
        GentleLetters y = told(head(3, 0, 1, 0, 0) + "grades 0 90 50;hearer thinks 1 1 1;"
                + "word shame 0 of 1;word shame 0 of 2;word shame 0 of 2;");
        due("1 and 2 hurt alike", y.softest(0, 1), 1);
        says(16, "NONE: there are no WORDS");
        GentleLetters none = told(head(2, 0, 1, 0, 0) + "hearer thinks 1 1;");
        due("softest(0, 3)", none.softest(0, 3), -1);
        says(16, "-2 likewise.");
        due("no words, belief 4", none.softest(0, 4), -2);
        due("no words, hearer 1", none.softest(1, 3), -2);
        due("belief 0", x.softest(0, 0), -2);
        due("belief 8", x.softest(0, 8), -2);
        refusesHearers((z, hearer) -> z.softest(hearer, 7));
    }
}
