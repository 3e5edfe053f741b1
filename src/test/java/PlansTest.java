/** Term V and promises 49 to 52: hearers who reckon; each sentence by a test of its own. */
public final class PlansTest extends Kit {
    /** All is 3750; behind 0: 5000, behind 0 1: 7000, behind 0 1 2: 9000, behind 3: 0. Reckon: 2, not, 1, 5. */
    private static final String PLANNED = head(4, 3, 6, 0, 0) + "grades 0 10 50 90;"
            + "hearer thinks 1 1 1 1 reckons 2;hearer thinks 1 1 1 1;hearer thinks 1 1 1 1 reckons 1;"
            + "hearer thinks 1 1 1 1 reckons 5;"
            + "word shame 0 of 1 2 3;word shame 0 of 2 3;word shame 0 of 3;word shame 0 of 0;"
            + "plan 0 1 2;plan 0 1;plan 0 3 1;plan 3 3 3 3 2;";

    public static void main(String[] args) {
        reckons();
        suspects();
        knew();
        reckoned();
        ends();
        finish();
    }

    private static GentleLetters planned(long... words) {
        GentleLetters x = told(PLANNED);
        fill(x, 0, 0, words);
        return x;
    }

    private static void reckons() {
        term("V", "RECKONS: a HEARER who reckons n: of a row once n WORDS or more (SILENCE aside) were told");
        due("3 is plan 3: one word is enough for 1", planned(3).knew(0, 2), 0);
        due("one word is too few for 2", planned(3).knew(0, 0), -1);
        due("two are enough for 2", planned(3, 3).knew(0, 0), 1);
        due("silence is no word", planned(3, 8, 8, 3).knew(0, 0), 3);
        due("four are too few for 5", planned(3, 3, 3, 3).knew(0, 3), -1);
        due("five are enough for 5", planned(3, 8, 3, 3, 3, 2).knew(0, 3), 5);
        term("V", ", and they are the beginning (or all) of just one PLAN");
        due("0: three plans", planned(0).knew(0, 2), -1);
        due("0 1: two plans", planned(0, 1).knew(0, 0), -1);
        due("0 1 2: all of just one", planned(0, 1, 2).knew(0, 0), 2);
        due("0 3: the beginning of just one", planned(0, 3).knew(0, 0), 1);
        due("1: of none", planned(1, 1).knew(0, 2), -1);
        due("0 1 0: of none", planned(0, 1, 0).knew(0, 0), -1);
        GentleLetters like = told(head(2, 0, 2, 0, 0) + "hearer thinks 1 1 reckons 1;word shame 0 of 0;plan 0;plan 0;");
        fill(like, 0, 0, 0);
        due("two like plans are not just one", like.knew(0, 0), -1);
        GentleLetters none = told(head(2, 0, 2, 0, 0) + "hearer thinks 1 1 reckons 1;word shame 0 of 0;");
        fill(none, 0, 0, 0);
        due("no plans", none.knew(0, 0), -1);
        term("V", ", she believes from then on what is behind all of that PLAN (from all STATES on), whatever comes.");
        // 0 3 is plan 2, which ends with {2 3}: 5000, then 7000, and no more
        due("0 3 2 2", planned(0, 3, 2, 2).reckoned(0, 0), 15625 + 40000);
        due("0 3 2 2 for her who does not reckon: down to 0, up to 9000", planned(0, 3, 2, 2).reckoned(0, 1), 15625 + 810000);
        due("3 3: behind all of plan 3 it is 9000", planned(3, 3).reckoned(0, 0), 810000);
        due("3: at once from 3750", planned(3).reckoned(0, 2), 275625);
        due("she knows by the first such plan: another word of another is nothing", planned(3, 0, 1).reckoned(0, 2), 275625);
    }

    private static void suspects() {
        says(49, "PLANS that begin with a SLOT's row of WORDS (SILENCE aside)");
        due("none begins all", planned().suspects(0), 15);
        due("silence", planned(8, 8).suspects(0), 15);
        due("0", planned(0).suspects(0), 7);
        due("8 0 8", planned(8, 0, 8).suspects(0), 7);
        due("0 1", planned(0, 1).suspects(0), 3);
        due("0 3", planned(0, 8, 3).suspects(0), 4);
        due("1", planned(1).suspects(0), 0);
        GentleLetters none = told(head(2, 0, 2, 0, 0));
        fill(none, 0, 0, 8);
        due("no plans", none.suspects(0), 0);
        says(49, ", or are all of it, as bits.");
        due("0 1 2", planned(0, 1, 8, 2).suspects(0), 1);
        due("3 3 3 3 2", planned(3, 3, 3, 3, 2).suspects(0), 8);
        due("one word more", planned(3, 3, 3, 3, 2, 2).suspects(0), 0);
        due("0 1 2 2", planned(0, 1, 2, 2).suspects(0), 0);
        says(49, "-2, -6 as believes().");
        refusesRows((x, slot) -> x.suspects(slot));
        GentleLetters nobody = told(head(2, 0, 2, 0, 0) + "word shame 0 of 0;plan 0;");
        fill(nobody, 0, 0, 0);
        due("without hearers", nobody.suspects(0), 1);
    }

    private static void knew() {
        says(50, "RECKONS (V): the day on which a HEARER knows by a PLAN.");
        due("0 8 1 2", planned(0, 8, 1, 2).knew(0, 0), 3);
        due("0 8 1 2, reckons 1", planned(0, 8, 1, 2).knew(0, 2), 3);
        due("8 8 3 0 0", planned(8, 8, 3, 0, 0).knew(0, 2), 2);
        due("the first day of the row", planned(3, 3).knew(0, 2), 0);
        says(50, "NONE: she does not");
        due("who does not reckon", planned(0, 1, 2).knew(0, 1), -1);
        due("too few words", planned(0, 1, 2).knew(0, 3), -1);
        due("silence", planned(8, 8).knew(0, 2), -1);
        due("none", planned().knew(0, 2), -1);
        says(50, "-2, -6 likewise, no such HEARER.");
        refusesRows((x, slot) -> x.knew(slot, 1));
        refusesHearers((x, hearer) -> x.knew(0, hearer));
        due("no such hearer, nothing", planned(0).knew(1, 4), -2);
    }

    private static void reckoned() {
        says(51, "HURTS of the row for her, together, reckoning so.");
        due("0 8 1 2: it ends alike", planned(0, 8, 1, 2).reckoned(0, 0), 15625 + 40000 + 40000);
        due("0 8 1 2 for her who does not reckon", planned(0, 8, 1, 2).reckoned(0, 1), 15625 + 40000 + 40000);
        due("8 3 2 reckons 1: at once to 9000", planned(8, 3, 2).reckoned(0, 2), 275625);
        due("8 3 2 reckons 2: of no plan, 0 to 9000", planned(8, 3, 2).reckoned(0, 0), 810000);
        due("none", planned().reckoned(0, 0), 0);
        due("hurts() does not ask it", planned(3).hurts(0, 2), 0);
        says(51, "-2, -6 likewise.");
        refusesRows((x, slot) -> x.reckoned(slot, 1));
        refusesHearers((x, hearer) -> x.reckoned(0, hearer));
        due("no such hearer, nothing", planned(0).reckoned(1, 4), -2);
    }

    private static void ends() {
        GentleLetters x = told(PLANNED);
        says(52, "BELIEF behind a PLAN.");
        due("0 1 2", x.ends(0), 8);
        due("0 1", x.ends(1), 12);
        due("0 3 1: {0}, then {2 3}", x.ends(2), 12);
        due("3 3 3 3 2", x.ends(3), 8);
        due("one word", told(SAMPLE).ends(1), 1);
        GentleLetters two = told(head(3, 0, 1, 0, 0) + "word shame 0 of 0 1;word shame 0 of 1 2;plan 0 1;plan 1;plan 1 0;");
        due("{0 1}, {1 2}", two.ends(0), 2);
        due("{1 2} alone", two.ends(1), 6);
        due("{1 2}, {0 1}", two.ends(2), 2);
        says(52, "-2: there is none such.");
        due("plan 4", x.ends(4), -2);
        due("plan -1", x.ends(-1), -2);
        due("plan 2 of two", told(SAMPLE).ends(2), -2);
        due("no plans", told(head(2, 0, 2, 0, 0)).ends(0), -2);
        due("no desk", new GentleLetters().ends(0), -2);
    }
}
